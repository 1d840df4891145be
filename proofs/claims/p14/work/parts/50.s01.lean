theorem s_X1_pairBrackets_L4 {A : Nat → Nat → Nat → Prop} {B : SS} (i1 : Nat) (i0 : Nat) (a1 : ∀ p, A 19 i0 p) (a2 : ∀ p, A 20 i0 p) : ∀ (n : Nat), ∀ (v3 : Int32) (v4 : Int32) (X5 : SS) (k1 : (SS → Option (SS × Unit))), (FU v3 24 n) → ((0 : Int32) ≤ v3 ∧ v3 ≤ (24 : Int32)) → ((0 : Int32) ≤ v4 ∧ v4 ≤ (24 : Int32)) → (IV A B X5) → (v4 ≤ v3) → (∀ (k_0 : SS), (IV A B k_0) → ok (k1 k_0) (fun r => IV A B r.1 ∧ True)) → ok (f_X1_pairBrackets_L4 i1 i0 n v3 v4 X5 k1) (fun r => IV A B r.1 ∧ True) := by
  intro n
  induction n with
  | zero =>
    intro v3 v4 X5 k1 hF iv3 iv4 hX5 x0 hk
    exact (FU.stop hF (show v3 ≤ (24 : Int32) by grind)).elim
  | succ n ih =>
    intro v3 v4 X5 k1 hF iv3 iv4 hX5 x0 hk
    rw [f_X1_pairBrackets_L4]
    refine ok_ite (fun q1 => ?_) (fun q1 => ?_)
    · exact hk X5 hX5
    · refine ok_gd ?_ (fun g2 => ?_)
      · have c3 : (0 : Int32) ≤ (X5.1 1 i1 2) ∧ (X5.1 1 i1 2) ≤ (24 : Int32) := hX5.at1 1 i1 2
        exact vp_of (by decide) (by grind) (show v3 < (24 : Int32) by grind)
      have g2 := vp_to (by decide) g2
      have g2 : (0 : Int32) ≤ v3 ∧ v3 < (24 : Int32) := g2
      refine ok_lq (fun X8 eq_4 => ?_)
      have pf5 : (0 : Int32) ≤ v3 ∧ v3 ≤ (23 : Int32) := by
        have c6 : (0 : Int32) ≤ (X5.1 1 i1 2) ∧ (X5.1 1 i1 2) ≤ (24 : Int32) := hX5.at1 1 i1 2
        exact ⟨by grind, by grind⟩
      have hX8 : IV A B X8 := by rw [eq_4]; exact hX5.w1 rfl (a1 ((v3).toNatClampNeg)) pf5
      refine ok_gd ?_ (fun g7 => ?_)
      · have c8 : (0 : Int32) ≤ (X5.1 1 i1 2) ∧ (X5.1 1 i1 2) ≤ (24 : Int32) := hX5.at1 1 i1 2
        exact vp_of (by decide) (by grind) (show v3 < (24 : Int32) by grind)
      have g7 := vp_to (by decide) g7
      have g7 : (0 : Int32) ≤ v3 ∧ v3 < (24 : Int32) := g7
      refine ok_ite (fun q9 => ?_) (fun q9 => ?_)
      · refine ok_gd ?_ (fun g10 => ?_)
        · have c11 : (0 : Int32) ≤ (X5.1 1 i1 2) ∧ (X5.1 1 i1 2) ≤ (24 : Int32) := hX5.at1 1 i1 2
          have c12 : (0 : Int32) ≤ (X8.1 2 i1 (v3).toNatClampNeg) ∧ (X8.1 2 i1 (v3).toNatClampNeg) ≤ (65535 : Int32) := hX8.at1 2 i1 ((v3).toNatClampNeg)
          have c13 : (X8.1 2 i1 (v3).toNatClampNeg) = (X5.1 2 i1 (v3).toNatClampNeg) := by rw [eq_4]; exact up_k (by decide)
          have c14 : (0 : Int32) ≤ (X5.1 2 i1 (v3).toNatClampNeg) ∧ (X5.1 2 i1 (v3).toNatClampNeg) ≤ (65535 : Int32) := hX5.at1 2 i1 ((v3).toNatClampNeg)
          exact vp_of (by decide) (by grind) (show v4 < (24 : Int32) by grind)
        have g10 := vp_to (by decide) g10
        have g10 : (0 : Int32) ≤ v4 ∧ v4 < (24 : Int32) := g10
        refine ok_lq (fun X21 eq_15 => ?_)
        have pf16 : (0 : Int32) ≤ v3 ∧ v3 ≤ (23 : Int32) := by
          have c17 : (0 : Int32) ≤ (X5.1 1 i1 2) ∧ (X5.1 1 i1 2) ≤ (24 : Int32) := hX5.at1 1 i1 2
          have c18 : (0 : Int32) ≤ (X8.1 2 i1 (v3).toNatClampNeg) ∧ (X8.1 2 i1 (v3).toNatClampNeg) ≤ (65535 : Int32) := hX8.at1 2 i1 ((v3).toNatClampNeg)
          have c19 : (X8.1 2 i1 (v3).toNatClampNeg) = (X5.1 2 i1 (v3).toNatClampNeg) := by rw [eq_4]; exact up_k (by decide)
          have c20 : (0 : Int32) ≤ (X5.1 2 i1 (v3).toNatClampNeg) ∧ (X5.1 2 i1 (v3).toNatClampNeg) ≤ (65535 : Int32) := hX5.at1 2 i1 ((v3).toNatClampNeg)
          exact ⟨by grind, by grind⟩
        have hX21 : IV A B X21 := by rw [eq_15]; exact hX8.w1 rfl (a2 ((v4).toNatClampNeg)) pf16
        have pf21 : FU (v3 + (1 : Int32)) 24 n := by
          have c22 : (0 : Int32) ≤ (X5.1 1 i1 2) ∧ (X5.1 1 i1 2) ≤ (24 : Int32) := hX5.at1 1 i1 2
          have c23 : (0 : Int32) ≤ (X8.1 2 i1 (v3).toNatClampNeg) ∧ (X8.1 2 i1 (v3).toNatClampNeg) ≤ (65535 : Int32) := hX8.at1 2 i1 ((v3).toNatClampNeg)
          have c24 : (X8.1 2 i1 (v3).toNatClampNeg) = (X5.1 2 i1 (v3).toNatClampNeg) := by rw [eq_4]; exact up_k (by decide)
          have c25 : (0 : Int32) ≤ (X5.1 2 i1 (v3).toNatClampNeg) ∧ (X5.1 2 i1 (v3).toNatClampNeg) ≤ (65535 : Int32) := hX5.at1 2 i1 ((v3).toNatClampNeg)
          exact FU.step hF (by grind)
        have pf26 : (0 : Int32) ≤ (v3 + (1 : Int32)) ∧ (v3 + (1 : Int32)) ≤ (24 : Int32) := by
          have c27 : (0 : Int32) ≤ (X5.1 1 i1 2) ∧ (X5.1 1 i1 2) ≤ (24 : Int32) := hX5.at1 1 i1 2
          have c28 : (0 : Int32) ≤ (X8.1 2 i1 (v3).toNatClampNeg) ∧ (X8.1 2 i1 (v3).toNatClampNeg) ≤ (65535 : Int32) := hX8.at1 2 i1 ((v3).toNatClampNeg)
          have c29 : (X8.1 2 i1 (v3).toNatClampNeg) = (X5.1 2 i1 (v3).toNatClampNeg) := by rw [eq_4]; exact up_k (by decide)
          have c30 : (0 : Int32) ≤ (X5.1 2 i1 (v3).toNatClampNeg) ∧ (X5.1 2 i1 (v3).toNatClampNeg) ≤ (65535 : Int32) := hX5.at1 2 i1 ((v3).toNatClampNeg)
          exact ⟨by grind, by grind⟩
        have pf31 : (0 : Int32) ≤ (v4 + (1 : Int32)) ∧ (v4 + (1 : Int32)) ≤ (24 : Int32) := by
          have c32 : (0 : Int32) ≤ (X5.1 1 i1 2) ∧ (X5.1 1 i1 2) ≤ (24 : Int32) := hX5.at1 1 i1 2
          have c33 : (0 : Int32) ≤ (X8.1 2 i1 (v3).toNatClampNeg) ∧ (X8.1 2 i1 (v3).toNatClampNeg) ≤ (65535 : Int32) := hX8.at1 2 i1 ((v3).toNatClampNeg)
          have c34 : (X8.1 2 i1 (v3).toNatClampNeg) = (X5.1 2 i1 (v3).toNatClampNeg) := by rw [eq_4]; exact up_k (by decide)
          have c35 : (0 : Int32) ≤ (X5.1 2 i1 (v3).toNatClampNeg) ∧ (X5.1 2 i1 (v3).toNatClampNeg) ≤ (65535 : Int32) := hX5.at1 2 i1 ((v3).toNatClampNeg)
          exact ⟨by grind, by grind⟩
        have pf36 : (v4 + (1 : Int32)) ≤ (v3 + (1 : Int32)) := by
          have c37 : (0 : Int32) ≤ (X5.1 1 i1 2) ∧ (X5.1 1 i1 2) ≤ (24 : Int32) := hX5.at1 1 i1 2
          have c38 : (0 : Int32) ≤ (X8.1 2 i1 (v3).toNatClampNeg) ∧ (X8.1 2 i1 (v3).toNatClampNeg) ≤ (65535 : Int32) := hX8.at1 2 i1 ((v3).toNatClampNeg)
          have c39 : (X8.1 2 i1 (v3).toNatClampNeg) = (X5.1 2 i1 (v3).toNatClampNeg) := by rw [eq_4]; exact up_k (by decide)
          have c40 : (0 : Int32) ≤ (X5.1 2 i1 (v3).toNatClampNeg) ∧ (X5.1 2 i1 (v3).toNatClampNeg) ≤ (65535 : Int32) := hX5.at1 2 i1 ((v3).toNatClampNeg)
          grind
        exact ih (v3 + (1 : Int32)) (v4 + (1 : Int32)) X21 k1 pf21 pf26 pf31 hX21 pf36 hk
      · refine ok_gd ?_ (fun g41 => ?_)
        · have c42 : (0 : Int32) ≤ (X5.1 1 i1 2) ∧ (X5.1 1 i1 2) ≤ (24 : Int32) := hX5.at1 1 i1 2
          have c43 : (0 : Int32) ≤ (X8.1 2 i1 (v3).toNatClampNeg) ∧ (X8.1 2 i1 (v3).toNatClampNeg) ≤ (65535 : Int32) := hX8.at1 2 i1 ((v3).toNatClampNeg)
          have c44 : (X8.1 2 i1 (v3).toNatClampNeg) = (X5.1 2 i1 (v3).toNatClampNeg) := by rw [eq_4]; exact up_k (by decide)
          have c45 : (0 : Int32) ≤ (X5.1 2 i1 (v3).toNatClampNeg) ∧ (X5.1 2 i1 (v3).toNatClampNeg) ≤ (65535 : Int32) := hX5.at1 2 i1 ((v3).toNatClampNeg)
          exact vp_of (by decide) (by grind) (show v3 < (24 : Int32) by grind)
        have g41 := vp_to (by decide) g41
        have g41 : (0 : Int32) ≤ v3 ∧ v3 < (24 : Int32) := g41
        refine ok_ite (fun q46 => ?_) (fun q46 => ?_)
        · refine ok_ite (fun q47 => ?_) (fun q47 => ?_)
          · have pf48 : FU (v3 + (1 : Int32)) 24 n := by
              have c49 : (0 : Int32) ≤ (X5.1 1 i1 2) ∧ (X5.1 1 i1 2) ≤ (24 : Int32) := hX5.at1 1 i1 2
              have c50 : (0 : Int32) ≤ (X8.1 2 i1 (v3).toNatClampNeg) ∧ (X8.1 2 i1 (v3).toNatClampNeg) ≤ (65535 : Int32) := hX8.at1 2 i1 ((v3).toNatClampNeg)
              have c51 : (X8.1 2 i1 (v3).toNatClampNeg) = (X5.1 2 i1 (v3).toNatClampNeg) := by rw [eq_4]; exact up_k (by decide)
              have c52 : (0 : Int32) ≤ (X5.1 2 i1 (v3).toNatClampNeg) ∧ (X5.1 2 i1 (v3).toNatClampNeg) ≤ (65535 : Int32) := hX5.at1 2 i1 ((v3).toNatClampNeg)
              exact FU.step hF (by grind)
            have pf53 : (0 : Int32) ≤ (v3 + (1 : Int32)) ∧ (v3 + (1 : Int32)) ≤ (24 : Int32) := by
              have c54 : (0 : Int32) ≤ (X5.1 1 i1 2) ∧ (X5.1 1 i1 2) ≤ (24 : Int32) := hX5.at1 1 i1 2
              have c55 : (0 : Int32) ≤ (X8.1 2 i1 (v3).toNatClampNeg) ∧ (X8.1 2 i1 (v3).toNatClampNeg) ≤ (65535 : Int32) := hX8.at1 2 i1 ((v3).toNatClampNeg)
              have c56 : (X8.1 2 i1 (v3).toNatClampNeg) = (X5.1 2 i1 (v3).toNatClampNeg) := by rw [eq_4]; exact up_k (by decide)
              have c57 : (0 : Int32) ≤ (X5.1 2 i1 (v3).toNatClampNeg) ∧ (X5.1 2 i1 (v3).toNatClampNeg) ≤ (65535 : Int32) := hX5.at1 2 i1 ((v3).toNatClampNeg)
              exact ⟨by grind, by grind⟩
            have pf58 : (0 : Int32) ≤ v4 ∧ v4 ≤ (24 : Int32) := by
              have c59 : (0 : Int32) ≤ (X5.1 1 i1 2) ∧ (X5.1 1 i1 2) ≤ (24 : Int32) := hX5.at1 1 i1 2
              have c60 : (0 : Int32) ≤ (X8.1 2 i1 (v3).toNatClampNeg) ∧ (X8.1 2 i1 (v3).toNatClampNeg) ≤ (65535 : Int32) := hX8.at1 2 i1 ((v3).toNatClampNeg)
              have c61 : (X8.1 2 i1 (v3).toNatClampNeg) = (X5.1 2 i1 (v3).toNatClampNeg) := by rw [eq_4]; exact up_k (by decide)
              have c62 : (0 : Int32) ≤ (X5.1 2 i1 (v3).toNatClampNeg) ∧ (X5.1 2 i1 (v3).toNatClampNeg) ≤ (65535 : Int32) := hX5.at1 2 i1 ((v3).toNatClampNeg)
              exact ⟨by grind, by grind⟩
            have pf63 : v4 ≤ (v3 + (1 : Int32)) := by
              have c64 : (0 : Int32) ≤ (X5.1 1 i1 2) ∧ (X5.1 1 i1 2) ≤ (24 : Int32) := hX5.at1 1 i1 2
              have c65 : (0 : Int32) ≤ (X8.1 2 i1 (v3).toNatClampNeg) ∧ (X8.1 2 i1 (v3).toNatClampNeg) ≤ (65535 : Int32) := hX8.at1 2 i1 ((v3).toNatClampNeg)
              have c66 : (X8.1 2 i1 (v3).toNatClampNeg) = (X5.1 2 i1 (v3).toNatClampNeg) := by rw [eq_4]; exact up_k (by decide)
              have c67 : (0 : Int32) ≤ (X5.1 2 i1 (v3).toNatClampNeg) ∧ (X5.1 2 i1 (v3).toNatClampNeg) ≤ (65535 : Int32) := hX5.at1 2 i1 ((v3).toNatClampNeg)
              grind
            exact ih (v3 + (1 : Int32)) v4 X8 k1 pf48 pf53 pf58 hX8 pf63 hk
          · refine ok_gd ?_ (fun g68 => ?_)
            · have c69 : (0 : Int32) ≤ (X5.1 1 i1 2) ∧ (X5.1 1 i1 2) ≤ (24 : Int32) := hX5.at1 1 i1 2
              have c70 : (0 : Int32) ≤ (X8.1 2 i1 (v3).toNatClampNeg) ∧ (X8.1 2 i1 (v3).toNatClampNeg) ≤ (65535 : Int32) := hX8.at1 2 i1 ((v3).toNatClampNeg)
              have c71 : (X8.1 2 i1 (v3).toNatClampNeg) = (X5.1 2 i1 (v3).toNatClampNeg) := by rw [eq_4]; exact up_k (by decide)
              have c72 : (0 : Int32) ≤ (X5.1 2 i1 (v3).toNatClampNeg) ∧ (X5.1 2 i1 (v3).toNatClampNeg) ≤ (65535 : Int32) := hX5.at1 2 i1 ((v3).toNatClampNeg)
              exact vp_of (by decide) (by grind) (show (v4 + ((-1) : Int32)) < (24 : Int32) by grind)
            have g68 := vp_to (by decide) g68
            have g68 : (0 : Int32) ≤ (v4 + ((-1) : Int32)) ∧ (v4 + ((-1) : Int32)) < (24 : Int32) := g68
            refine ok_gd ?_ (fun g73 => ?_)
            · have c74 : (0 : Int32) ≤ (X5.1 1 i1 2) ∧ (X5.1 1 i1 2) ≤ (24 : Int32) := hX5.at1 1 i1 2
              have c75 : (0 : Int32) ≤ (X8.1 2 i1 (v3).toNatClampNeg) ∧ (X8.1 2 i1 (v3).toNatClampNeg) ≤ (65535 : Int32) := hX8.at1 2 i1 ((v3).toNatClampNeg)
              have c76 : (X8.1 2 i1 (v3).toNatClampNeg) = (X5.1 2 i1 (v3).toNatClampNeg) := by rw [eq_4]; exact up_k (by decide)
              have c77 : (0 : Int32) ≤ (X5.1 2 i1 (v3).toNatClampNeg) ∧ (X5.1 2 i1 (v3).toNatClampNeg) ≤ (65535 : Int32) := hX5.at1 2 i1 ((v3).toNatClampNeg)
              exact vp_of (by decide) (by grind) (show v3 < (24 : Int32) by grind)
            have g73 := vp_to (by decide) g73
            have g73 : (0 : Int32) ≤ v3 ∧ v3 < (24 : Int32) := g73
            refine ok_lq (fun X16 eq_78 => ?_)
            have pf79 : (0 : Int32) ≤ (X8.1 20 i0 ((v4 + ((-1) : Int32))).toNatClampNeg) ∧ (X8.1 20 i0 ((v4 + ((-1) : Int32))).toNatClampNeg) ≤ (23 : Int32) := by
              have c80 : (0 : Int32) ≤ (X8.1 20 i0 ((v4 + ((-1) : Int32))).toNatClampNeg) ∧ (X8.1 20 i0 ((v4 + ((-1) : Int32))).toNatClampNeg) ≤ (23 : Int32) := hX8.at1 20 i0 (((v4 + ((-1) : Int32))).toNatClampNeg)
              have c81 : (X8.1 20 i0 ((v4 + ((-1) : Int32))).toNatClampNeg) = (X5.1 20 i0 ((v4 + ((-1) : Int32))).toNatClampNeg) := by rw [eq_4]; exact up_k (by decide)
              have c82 : (0 : Int32) ≤ (X5.1 1 i1 2) ∧ (X5.1 1 i1 2) ≤ (24 : Int32) := hX5.at1 1 i1 2
              have c83 : (0 : Int32) ≤ (X8.1 2 i1 (v3).toNatClampNeg) ∧ (X8.1 2 i1 (v3).toNatClampNeg) ≤ (65535 : Int32) := hX8.at1 2 i1 ((v3).toNatClampNeg)
              have c84 : (X8.1 2 i1 (v3).toNatClampNeg) = (X5.1 2 i1 (v3).toNatClampNeg) := by rw [eq_4]; exact up_k (by decide)
              have c85 : (0 : Int32) ≤ (X5.1 20 i0 ((v4 + ((-1) : Int32))).toNatClampNeg) ∧ (X5.1 20 i0 ((v4 + ((-1) : Int32))).toNatClampNeg) ≤ (23 : Int32) := hX5.at1 20 i0 (((v4 + ((-1) : Int32))).toNatClampNeg)
              have c86 : (0 : Int32) ≤ (X5.1 2 i1 (v3).toNatClampNeg) ∧ (X5.1 2 i1 (v3).toNatClampNeg) ≤ (65535 : Int32) := hX5.at1 2 i1 ((v3).toNatClampNeg)
              exact ⟨by grind, by grind⟩
            have hX16 : IV A B X16 := by rw [eq_78]; exact hX8.w1 rfl (a1 ((v3).toNatClampNeg)) pf79
            refine ok_gd ?_ (fun g87 => ?_)
            · have c88 : (0 : Int32) ≤ (X5.1 1 i1 2) ∧ (X5.1 1 i1 2) ≤ (24 : Int32) := hX5.at1 1 i1 2
              have c89 : (0 : Int32) ≤ (X8.1 2 i1 (v3).toNatClampNeg) ∧ (X8.1 2 i1 (v3).toNatClampNeg) ≤ (65535 : Int32) := hX8.at1 2 i1 ((v3).toNatClampNeg)
              have c90 : (X8.1 2 i1 (v3).toNatClampNeg) = (X5.1 2 i1 (v3).toNatClampNeg) := by rw [eq_4]; exact up_k (by decide)
              have c91 : (0 : Int32) ≤ (X5.1 2 i1 (v3).toNatClampNeg) ∧ (X5.1 2 i1 (v3).toNatClampNeg) ≤ (65535 : Int32) := hX5.at1 2 i1 ((v3).toNatClampNeg)
              exact vp_of (by decide) (by grind) (show (v4 + ((-1) : Int32)) < (24 : Int32) by grind)
            have g87 := vp_to (by decide) g87
            have g87 : (0 : Int32) ≤ (v4 + ((-1) : Int32)) ∧ (v4 + ((-1) : Int32)) < (24 : Int32) := g87
            refine ok_gd ?_ (fun g92 => ?_)
            · have c93 : (0 : Int32) ≤ (X16.1 20 i0 ((v4 + ((-1) : Int32))).toNatClampNeg) ∧ (X16.1 20 i0 ((v4 + ((-1) : Int32))).toNatClampNeg) ≤ (23 : Int32) := hX16.at1 20 i0 (((v4 + ((-1) : Int32))).toNatClampNeg)
              have c94 : (X16.1 20 i0 ((v4 + ((-1) : Int32))).toNatClampNeg) = (X8.1 20 i0 ((v4 + ((-1) : Int32))).toNatClampNeg) := by rw [eq_78]; exact up_k (by decide)
              have c95 : (0 : Int32) ≤ (X5.1 1 i1 2) ∧ (X5.1 1 i1 2) ≤ (24 : Int32) := hX5.at1 1 i1 2
              have c96 : (0 : Int32) ≤ (X8.1 2 i1 (v3).toNatClampNeg) ∧ (X8.1 2 i1 (v3).toNatClampNeg) ≤ (65535 : Int32) := hX8.at1 2 i1 ((v3).toNatClampNeg)
              have c97 : (X8.1 2 i1 (v3).toNatClampNeg) = (X5.1 2 i1 (v3).toNatClampNeg) := by rw [eq_4]; exact up_k (by decide)
              have c98 : (0 : Int32) ≤ (X8.1 20 i0 ((v4 + ((-1) : Int32))).toNatClampNeg) ∧ (X8.1 20 i0 ((v4 + ((-1) : Int32))).toNatClampNeg) ≤ (23 : Int32) := hX8.at1 20 i0 (((v4 + ((-1) : Int32))).toNatClampNeg)
              have c99 : (X8.1 20 i0 ((v4 + ((-1) : Int32))).toNatClampNeg) = (X5.1 20 i0 ((v4 + ((-1) : Int32))).toNatClampNeg) := by rw [eq_4]; exact up_k (by decide)
              have c100 : (0 : Int32) ≤ (X5.1 2 i1 (v3).toNatClampNeg) ∧ (X5.1 2 i1 (v3).toNatClampNeg) ≤ (65535 : Int32) := hX5.at1 2 i1 ((v3).toNatClampNeg)
              have c101 : (0 : Int32) ≤ (X5.1 20 i0 ((v4 + ((-1) : Int32))).toNatClampNeg) ∧ (X5.1 20 i0 ((v4 + ((-1) : Int32))).toNatClampNeg) ≤ (23 : Int32) := hX5.at1 20 i0 (((v4 + ((-1) : Int32))).toNatClampNeg)
              exact vp_of (by decide) (by grind) (show (X16.1 20 i0 ((v4 + ((-1) : Int32))).toNatClampNeg) < (24 : Int32) by grind)
            have g92 := vp_to (by decide) g92
            have g92 : (0 : Int32) ≤ (X16.1 20 i0 ((v4 + ((-1) : Int32))).toNatClampNeg) ∧ (X16.1 20 i0 ((v4 + ((-1) : Int32))).toNatClampNeg) < (24 : Int32) := g92
            refine ok_lq (fun X19 eq_102 => ?_)
            have pf103 : (0 : Int32) ≤ v3 ∧ v3 ≤ (23 : Int32) := by
              have c104 : (0 : Int32) ≤ (X5.1 1 i1 2) ∧ (X5.1 1 i1 2) ≤ (24 : Int32) := hX5.at1 1 i1 2
              have c105 : (0 : Int32) ≤ (X8.1 2 i1 (v3).toNatClampNeg) ∧ (X8.1 2 i1 (v3).toNatClampNeg) ≤ (65535 : Int32) := hX8.at1 2 i1 ((v3).toNatClampNeg)
              have c106 : (X8.1 2 i1 (v3).toNatClampNeg) = (X5.1 2 i1 (v3).toNatClampNeg) := by rw [eq_4]; exact up_k (by decide)
              have c107 : (0 : Int32) ≤ (X16.1 20 i0 ((v4 + ((-1) : Int32))).toNatClampNeg) ∧ (X16.1 20 i0 ((v4 + ((-1) : Int32))).toNatClampNeg) ≤ (23 : Int32) := hX16.at1 20 i0 (((v4 + ((-1) : Int32))).toNatClampNeg)
              have c108 : (X16.1 20 i0 ((v4 + ((-1) : Int32))).toNatClampNeg) = (X8.1 20 i0 ((v4 + ((-1) : Int32))).toNatClampNeg) := by rw [eq_78]; exact up_k (by decide)
              have c109 : (0 : Int32) ≤ (X5.1 2 i1 (v3).toNatClampNeg) ∧ (X5.1 2 i1 (v3).toNatClampNeg) ≤ (65535 : Int32) := hX5.at1 2 i1 ((v3).toNatClampNeg)
              have c110 : (0 : Int32) ≤ (X8.1 20 i0 ((v4 + ((-1) : Int32))).toNatClampNeg) ∧ (X8.1 20 i0 ((v4 + ((-1) : Int32))).toNatClampNeg) ≤ (23 : Int32) := hX8.at1 20 i0 (((v4 + ((-1) : Int32))).toNatClampNeg)
              have c111 : (X8.1 20 i0 ((v4 + ((-1) : Int32))).toNatClampNeg) = (X5.1 20 i0 ((v4 + ((-1) : Int32))).toNatClampNeg) := by rw [eq_4]; exact up_k (by decide)
              have c112 : (0 : Int32) ≤ (X5.1 20 i0 ((v4 + ((-1) : Int32))).toNatClampNeg) ∧ (X5.1 20 i0 ((v4 + ((-1) : Int32))).toNatClampNeg) ≤ (23 : Int32) := hX5.at1 20 i0 (((v4 + ((-1) : Int32))).toNatClampNeg)
              exact ⟨by grind, by grind⟩
            have hX19 : IV A B X19 := by rw [eq_102]; exact hX16.w1 rfl (a1 (((X16.1 20 i0 ((v4 + ((-1) : Int32))).toNatClampNeg)).toNatClampNeg)) pf103
            have pf113 : FU (v3 + (1 : Int32)) 24 n := by
              have c114 : (0 : Int32) ≤ (X5.1 1 i1 2) ∧ (X5.1 1 i1 2) ≤ (24 : Int32) := hX5.at1 1 i1 2
              have c115 : (0 : Int32) ≤ (X8.1 2 i1 (v3).toNatClampNeg) ∧ (X8.1 2 i1 (v3).toNatClampNeg) ≤ (65535 : Int32) := hX8.at1 2 i1 ((v3).toNatClampNeg)
              have c116 : (X8.1 2 i1 (v3).toNatClampNeg) = (X5.1 2 i1 (v3).toNatClampNeg) := by rw [eq_4]; exact up_k (by decide)
              have c117 : (0 : Int32) ≤ (X16.1 20 i0 ((v4 + ((-1) : Int32))).toNatClampNeg) ∧ (X16.1 20 i0 ((v4 + ((-1) : Int32))).toNatClampNeg) ≤ (23 : Int32) := hX16.at1 20 i0 (((v4 + ((-1) : Int32))).toNatClampNeg)
              have c118 : (X16.1 20 i0 ((v4 + ((-1) : Int32))).toNatClampNeg) = (X8.1 20 i0 ((v4 + ((-1) : Int32))).toNatClampNeg) := by rw [eq_78]; exact up_k (by decide)
              have c119 : (0 : Int32) ≤ (X5.1 2 i1 (v3).toNatClampNeg) ∧ (X5.1 2 i1 (v3).toNatClampNeg) ≤ (65535 : Int32) := hX5.at1 2 i1 ((v3).toNatClampNeg)
              have c120 : (0 : Int32) ≤ (X8.1 20 i0 ((v4 + ((-1) : Int32))).toNatClampNeg) ∧ (X8.1 20 i0 ((v4 + ((-1) : Int32))).toNatClampNeg) ≤ (23 : Int32) := hX8.at1 20 i0 (((v4 + ((-1) : Int32))).toNatClampNeg)
              have c121 : (X8.1 20 i0 ((v4 + ((-1) : Int32))).toNatClampNeg) = (X5.1 20 i0 ((v4 + ((-1) : Int32))).toNatClampNeg) := by rw [eq_4]; exact up_k (by decide)
              have c122 : (0 : Int32) ≤ (X5.1 20 i0 ((v4 + ((-1) : Int32))).toNatClampNeg) ∧ (X5.1 20 i0 ((v4 + ((-1) : Int32))).toNatClampNeg) ≤ (23 : Int32) := hX5.at1 20 i0 (((v4 + ((-1) : Int32))).toNatClampNeg)
              exact FU.step hF (by grind)
            have pf123 : (0 : Int32) ≤ (v3 + (1 : Int32)) ∧ (v3 + (1 : Int32)) ≤ (24 : Int32) := by
              have c124 : (0 : Int32) ≤ (X5.1 1 i1 2) ∧ (X5.1 1 i1 2) ≤ (24 : Int32) := hX5.at1 1 i1 2
              have c125 : (0 : Int32) ≤ (X8.1 2 i1 (v3).toNatClampNeg) ∧ (X8.1 2 i1 (v3).toNatClampNeg) ≤ (65535 : Int32) := hX8.at1 2 i1 ((v3).toNatClampNeg)
              have c126 : (X8.1 2 i1 (v3).toNatClampNeg) = (X5.1 2 i1 (v3).toNatClampNeg) := by rw [eq_4]; exact up_k (by decide)
              have c127 : (0 : Int32) ≤ (X16.1 20 i0 ((v4 + ((-1) : Int32))).toNatClampNeg) ∧ (X16.1 20 i0 ((v4 + ((-1) : Int32))).toNatClampNeg) ≤ (23 : Int32) := hX16.at1 20 i0 (((v4 + ((-1) : Int32))).toNatClampNeg)
              have c128 : (X16.1 20 i0 ((v4 + ((-1) : Int32))).toNatClampNeg) = (X8.1 20 i0 ((v4 + ((-1) : Int32))).toNatClampNeg) := by rw [eq_78]; exact up_k (by decide)
              have c129 : (0 : Int32) ≤ (X5.1 2 i1 (v3).toNatClampNeg) ∧ (X5.1 2 i1 (v3).toNatClampNeg) ≤ (65535 : Int32) := hX5.at1 2 i1 ((v3).toNatClampNeg)
              have c130 : (0 : Int32) ≤ (X8.1 20 i0 ((v4 + ((-1) : Int32))).toNatClampNeg) ∧ (X8.1 20 i0 ((v4 + ((-1) : Int32))).toNatClampNeg) ≤ (23 : Int32) := hX8.at1 20 i0 (((v4 + ((-1) : Int32))).toNatClampNeg)
              have c131 : (X8.1 20 i0 ((v4 + ((-1) : Int32))).toNatClampNeg) = (X5.1 20 i0 ((v4 + ((-1) : Int32))).toNatClampNeg) := by rw [eq_4]; exact up_k (by decide)
              have c132 : (0 : Int32) ≤ (X5.1 20 i0 ((v4 + ((-1) : Int32))).toNatClampNeg) ∧ (X5.1 20 i0 ((v4 + ((-1) : Int32))).toNatClampNeg) ≤ (23 : Int32) := hX5.at1 20 i0 (((v4 + ((-1) : Int32))).toNatClampNeg)
              exact ⟨by grind, by grind⟩
            have pf133 : (0 : Int32) ≤ (v4 + ((-1) : Int32)) ∧ (v4 + ((-1) : Int32)) ≤ (24 : Int32) := by
              have c134 : (0 : Int32) ≤ (X16.1 20 i0 ((v4 + ((-1) : Int32))).toNatClampNeg) ∧ (X16.1 20 i0 ((v4 + ((-1) : Int32))).toNatClampNeg) ≤ (23 : Int32) := hX16.at1 20 i0 (((v4 + ((-1) : Int32))).toNatClampNeg)
              have c135 : (X16.1 20 i0 ((v4 + ((-1) : Int32))).toNatClampNeg) = (X8.1 20 i0 ((v4 + ((-1) : Int32))).toNatClampNeg) := by rw [eq_78]; exact up_k (by decide)
              have c136 : (0 : Int32) ≤ (X5.1 1 i1 2) ∧ (X5.1 1 i1 2) ≤ (24 : Int32) := hX5.at1 1 i1 2
              have c137 : (0 : Int32) ≤ (X8.1 2 i1 (v3).toNatClampNeg) ∧ (X8.1 2 i1 (v3).toNatClampNeg) ≤ (65535 : Int32) := hX8.at1 2 i1 ((v3).toNatClampNeg)
              have c138 : (X8.1 2 i1 (v3).toNatClampNeg) = (X5.1 2 i1 (v3).toNatClampNeg) := by rw [eq_4]; exact up_k (by decide)
              have c139 : (0 : Int32) ≤ (X8.1 20 i0 ((v4 + ((-1) : Int32))).toNatClampNeg) ∧ (X8.1 20 i0 ((v4 + ((-1) : Int32))).toNatClampNeg) ≤ (23 : Int32) := hX8.at1 20 i0 (((v4 + ((-1) : Int32))).toNatClampNeg)
              have c140 : (X8.1 20 i0 ((v4 + ((-1) : Int32))).toNatClampNeg) = (X5.1 20 i0 ((v4 + ((-1) : Int32))).toNatClampNeg) := by rw [eq_4]; exact up_k (by decide)
              have c141 : (0 : Int32) ≤ (X5.1 2 i1 (v3).toNatClampNeg) ∧ (X5.1 2 i1 (v3).toNatClampNeg) ≤ (65535 : Int32) := hX5.at1 2 i1 ((v3).toNatClampNeg)
              have c142 : (0 : Int32) ≤ (X5.1 20 i0 ((v4 + ((-1) : Int32))).toNatClampNeg) ∧ (X5.1 20 i0 ((v4 + ((-1) : Int32))).toNatClampNeg) ≤ (23 : Int32) := hX5.at1 20 i0 (((v4 + ((-1) : Int32))).toNatClampNeg)
              exact ⟨by grind, by grind⟩
            have pf143 : (v4 + ((-1) : Int32)) ≤ (v3 + (1 : Int32)) := by
              have c144 : (0 : Int32) ≤ (X5.1 1 i1 2) ∧ (X5.1 1 i1 2) ≤ (24 : Int32) := hX5.at1 1 i1 2
              have c145 : (0 : Int32) ≤ (X8.1 2 i1 (v3).toNatClampNeg) ∧ (X8.1 2 i1 (v3).toNatClampNeg) ≤ (65535 : Int32) := hX8.at1 2 i1 ((v3).toNatClampNeg)
              have c146 : (X8.1 2 i1 (v3).toNatClampNeg) = (X5.1 2 i1 (v3).toNatClampNeg) := by rw [eq_4]; exact up_k (by decide)
              have c147 : (0 : Int32) ≤ (X16.1 20 i0 ((v4 + ((-1) : Int32))).toNatClampNeg) ∧ (X16.1 20 i0 ((v4 + ((-1) : Int32))).toNatClampNeg) ≤ (23 : Int32) := hX16.at1 20 i0 (((v4 + ((-1) : Int32))).toNatClampNeg)
              have c148 : (X16.1 20 i0 ((v4 + ((-1) : Int32))).toNatClampNeg) = (X8.1 20 i0 ((v4 + ((-1) : Int32))).toNatClampNeg) := by rw [eq_78]; exact up_k (by decide)
              have c149 : (0 : Int32) ≤ (X5.1 2 i1 (v3).toNatClampNeg) ∧ (X5.1 2 i1 (v3).toNatClampNeg) ≤ (65535 : Int32) := hX5.at1 2 i1 ((v3).toNatClampNeg)
              have c150 : (0 : Int32) ≤ (X8.1 20 i0 ((v4 + ((-1) : Int32))).toNatClampNeg) ∧ (X8.1 20 i0 ((v4 + ((-1) : Int32))).toNatClampNeg) ≤ (23 : Int32) := hX8.at1 20 i0 (((v4 + ((-1) : Int32))).toNatClampNeg)
              have c151 : (X8.1 20 i0 ((v4 + ((-1) : Int32))).toNatClampNeg) = (X5.1 20 i0 ((v4 + ((-1) : Int32))).toNatClampNeg) := by rw [eq_4]; exact up_k (by decide)
              have c152 : (0 : Int32) ≤ (X5.1 20 i0 ((v4 + ((-1) : Int32))).toNatClampNeg) ∧ (X5.1 20 i0 ((v4 + ((-1) : Int32))).toNatClampNeg) ≤ (23 : Int32) := hX5.at1 20 i0 (((v4 + ((-1) : Int32))).toNatClampNeg)
              grind
            exact ih (v3 + (1 : Int32)) (v4 + ((-1) : Int32)) X19 k1 pf113 pf123 pf133 hX19 pf143 hk
        · have pf153 : FU (v3 + (1 : Int32)) 24 n := by
            have c154 : (0 : Int32) ≤ (X5.1 1 i1 2) ∧ (X5.1 1 i1 2) ≤ (24 : Int32) := hX5.at1 1 i1 2
            have c155 : (0 : Int32) ≤ (X8.1 2 i1 (v3).toNatClampNeg) ∧ (X8.1 2 i1 (v3).toNatClampNeg) ≤ (65535 : Int32) := hX8.at1 2 i1 ((v3).toNatClampNeg)
            have c156 : (X8.1 2 i1 (v3).toNatClampNeg) = (X5.1 2 i1 (v3).toNatClampNeg) := by rw [eq_4]; exact up_k (by decide)
            have c157 : (0 : Int32) ≤ (X5.1 2 i1 (v3).toNatClampNeg) ∧ (X5.1 2 i1 (v3).toNatClampNeg) ≤ (65535 : Int32) := hX5.at1 2 i1 ((v3).toNatClampNeg)
            exact FU.step hF (by grind)
          have pf158 : (0 : Int32) ≤ (v3 + (1 : Int32)) ∧ (v3 + (1 : Int32)) ≤ (24 : Int32) := by
            have c159 : (0 : Int32) ≤ (X5.1 1 i1 2) ∧ (X5.1 1 i1 2) ≤ (24 : Int32) := hX5.at1 1 i1 2
            have c160 : (0 : Int32) ≤ (X8.1 2 i1 (v3).toNatClampNeg) ∧ (X8.1 2 i1 (v3).toNatClampNeg) ≤ (65535 : Int32) := hX8.at1 2 i1 ((v3).toNatClampNeg)
            have c161 : (X8.1 2 i1 (v3).toNatClampNeg) = (X5.1 2 i1 (v3).toNatClampNeg) := by rw [eq_4]; exact up_k (by decide)
            have c162 : (0 : Int32) ≤ (X5.1 2 i1 (v3).toNatClampNeg) ∧ (X5.1 2 i1 (v3).toNatClampNeg) ≤ (65535 : Int32) := hX5.at1 2 i1 ((v3).toNatClampNeg)
            exact ⟨by grind, by grind⟩
          have pf163 : (0 : Int32) ≤ v4 ∧ v4 ≤ (24 : Int32) := by
            have c164 : (0 : Int32) ≤ (X5.1 1 i1 2) ∧ (X5.1 1 i1 2) ≤ (24 : Int32) := hX5.at1 1 i1 2
            have c165 : (0 : Int32) ≤ (X8.1 2 i1 (v3).toNatClampNeg) ∧ (X8.1 2 i1 (v3).toNatClampNeg) ≤ (65535 : Int32) := hX8.at1 2 i1 ((v3).toNatClampNeg)
            have c166 : (X8.1 2 i1 (v3).toNatClampNeg) = (X5.1 2 i1 (v3).toNatClampNeg) := by rw [eq_4]; exact up_k (by decide)
            have c167 : (0 : Int32) ≤ (X5.1 2 i1 (v3).toNatClampNeg) ∧ (X5.1 2 i1 (v3).toNatClampNeg) ≤ (65535 : Int32) := hX5.at1 2 i1 ((v3).toNatClampNeg)
            exact ⟨by grind, by grind⟩
          have pf168 : v4 ≤ (v3 + (1 : Int32)) := by
            have c169 : (0 : Int32) ≤ (X5.1 1 i1 2) ∧ (X5.1 1 i1 2) ≤ (24 : Int32) := hX5.at1 1 i1 2
            have c170 : (0 : Int32) ≤ (X8.1 2 i1 (v3).toNatClampNeg) ∧ (X8.1 2 i1 (v3).toNatClampNeg) ≤ (65535 : Int32) := hX8.at1 2 i1 ((v3).toNatClampNeg)
            have c171 : (X8.1 2 i1 (v3).toNatClampNeg) = (X5.1 2 i1 (v3).toNatClampNeg) := by rw [eq_4]; exact up_k (by decide)
            have c172 : (0 : Int32) ≤ (X5.1 2 i1 (v3).toNatClampNeg) ∧ (X5.1 2 i1 (v3).toNatClampNeg) ≤ (65535 : Int32) := hX5.at1 2 i1 ((v3).toNatClampNeg)
            grind
          exact ih (v3 + (1 : Int32)) v4 X8 k1 pf153 pf158 pf163 hX8 pf168 hk
theorem s_X1_pairBrackets {A : Nat → Nat → Nat → Prop} {B : SS} (X : SS) (hX : IV A B X) (i0 : Nat) (i1 : Nat) (a1 : ∀ p, A 19 i0 p) (a2 : ∀ p, A 20 i0 p) : ok (f_X1_pairBrackets X i0 i1) (fun r => IV A B r.1 ∧ True) := by
  unfold f_X1_pairBrackets
  have pf1 : FU (0 : Int32) 24 1000 := by
    exact FU.start (by grind) (by decide)
  have pf2 : (0 : Int32) ≤ (0 : Int32) := by
    grind
  refine s_X1_pairBrackets_L4 i1 i0 (fun p => a1 p) (fun p => a2 p) 1000 (0 : Int32) (0 : Int32) X _ pf1 (show (0 : Int32) ≤ (0 : Int32) ∧ (0 : Int32) ≤ (24 : Int32) from ⟨by decide, by decide⟩) (show (0 : Int32) ≤ (0 : Int32) ∧ (0 : Int32) ≤ (24 : Int32) from ⟨by decide, by decide⟩) hX pf2 (fun X2 hX2 => ?_)
  exact ok_some ⟨hX2, trivial⟩
theorem s_X1_neededBy (p0 : Int32) (ip0 : (0 : Int32) ≤ p0 ∧ p0 ≤ (65535 : Int32)) : ok (f_X1_neededBy p0) (fun r => (0 : Int32) ≤ r ∧ r ≤ (2 : Int32)) := by
  unfold f_X1_neededBy
  refine ok_ite (fun q1 => ?_) (fun q1 => ?_)
  · have pf2 : (0 : Int32) ≤ (1 : Int32) ∧ (1 : Int32) ≤ (2 : Int32) := by
      exact ⟨by grind, by grind⟩
    exact ok_some pf2
  · refine ok_ite (fun q3 => ?_) (fun q3 => ?_)
    · have pf4 : (0 : Int32) ≤ (1 : Int32) ∧ (1 : Int32) ≤ (2 : Int32) := by
        exact ⟨by grind, by grind⟩
      exact ok_some pf4
    · refine ok_ite (fun q5 => ?_) (fun q5 => ?_)
      · have pf6 : (0 : Int32) ≤ (1 : Int32) ∧ (1 : Int32) ≤ (2 : Int32) := by
          exact ⟨by grind, by grind⟩
        exact ok_some pf6
      · refine ok_ite (fun q7 => ?_) (fun q7 => ?_)
        · have pf8 : (0 : Int32) ≤ (0 : Int32) ∧ (0 : Int32) ≤ (2 : Int32) := by
            exact ⟨by grind, by grind⟩
          exact ok_some pf8
        · refine ok_ite (fun q9 => ?_) (fun q9 => ?_)
          · have pf10 : (0 : Int32) ≤ (0 : Int32) ∧ (0 : Int32) ≤ (2 : Int32) := by
              exact ⟨by grind, by grind⟩
            exact ok_some pf10
          · refine ok_ite (fun q11 => ?_) (fun q11 => ?_)
            · have pf12 : (0 : Int32) ≤ (1 : Int32) ∧ (1 : Int32) ≤ (2 : Int32) := by
                exact ⟨by grind, by grind⟩
              exact ok_some pf12
            · refine ok_ite (fun q13 => ?_) (fun q13 => ?_)
              · have pf14 : (0 : Int32) ≤ (1 : Int32) ∧ (1 : Int32) ≤ (2 : Int32) := by
                  exact ⟨by grind, by grind⟩
                exact ok_some pf14
              · have pf15 : (0 : Int32) ≤ (2 : Int32) ∧ (2 : Int32) ≤ (2 : Int32) := by
                  exact ⟨by grind, by grind⟩
                exact ok_some pf15
theorem s_X1_numberUnder {A : Nat → Nat → Nat → Prop} {B : SS} (X : SS) (hX : IV A B X) (i0 : Nat) (p0 : Int32) (ip0 : (0 : Int32) ≤ p0 ∧ p0 ≤ (1 : Int32)) : ok (f_X1_numberUnder X i0 p0) (fun r => True) := by
  unfold f_X1_numberUnder
  refine ok_lq (fun v1 eq_1 => ?_)
  refine ok_ite (fun q2 => ?_) (fun q2 => ?_)
  · exact ok_some trivial
  · refine ok_ite (fun q3 => ?_) (fun q3 => ?_)
    · exact ok_some trivial
    · refine ok_gd ?_ (fun g4 => ?_)
      · have c5 : (0 : Int32) ≤ (X.1 16 i0 4) ∧ (X.1 16 i0 4) ≤ (12 : Int32) := hX.at1 16 i0 4
        exact vp_of (by decide) (by grind) (show v1 < (12 : Int32) by grind)
      have g4 := vp_to (by decide) g4
      have g4 : (0 : Int32) ≤ v1 ∧ v1 < (12 : Int32) := g4
      exact ok_some trivial
theorem s_X1_errorOf {A : Nat → Nat → Nat → Prop} {B : SS} (X : SS) (hX : IV A B X) (i0 : Nat) (p0 : Int32) (ip0 : (0 : Int32) ≤ p0 ∧ p0 ≤ (65535 : Int32)) (i2 : Nat) : ok (f_X1_errorOf X i0 p0 i2) (fun r => (32 : Int32) ≤ r ∧ r ≤ (122 : Int32)) := by
  unfold f_X1_errorOf
  refine ok_ite (fun q1 => ?_) (fun q1 => ?_)
  · have pf2 : (0 : Int32) ≤ p0 ∧ p0 ≤ (65535 : Int32) := by
      exact ⟨by grind, by grind⟩
    refine ok_b0 (s_X1_neededBy p0 pf2) (fun v2 w3 => ?_)
    have w4 : (0 : Int32) ≤ v2 ∧ v2 ≤ (2 : Int32) := w3
    refine ok_ite (fun q5 => ?_) (fun q5 => ?_)
    · refine ok_ite (fun q6 => ?_) (fun q6 => ?_)
      · refine ok_ite (fun q7 => ?_) (fun q7 => ?_)
        · unfold f_X1_errorOf_J47
          refine ok_ite (fun q8 => ?_) (fun q8 => ?_)
          · refine ok_b0 (s_X1_numberUnder X hX i0 (0 : Int32) (show (0 : Int32) ≤ (0 : Int32) ∧ (0 : Int32) ≤ (1 : Int32) from ⟨by decide, by decide⟩)) (fun v19 w9 => ?_)
            refine ok_ite (fun q10 => ?_) (fun q10 => ?_)
            · have pf11 : (32 : Int32) ≤ (122 : Int32) ∧ (122 : Int32) ≤ (122 : Int32) := by
                exact ⟨by grind, by grind⟩
              exact ok_some pf11
            · unfold f_X1_errorOf_J64
              refine ok_ite (fun q12 => ?_) (fun q12 => ?_)
              · unfold f_X1_errorOf_J82
                unfold f_X1_errorOf_J87
                refine ok_ite (fun q13 => ?_) (fun q13 => ?_)
                · unfold f_X1_errorOf_J104
                  refine ok_ite (fun q14 => ?_) (fun q14 => ?_)
                  · refine ok_ite (fun q15 => ?_) (fun q15 => ?_)
                    · have pf16 : (32 : Int32) ≤ (32 : Int32) ∧ (32 : Int32) ≤ (122 : Int32) := by
                        exact ⟨by grind, by grind⟩
                      exact ok_some pf16
                    · have pf17 : (32 : Int32) ≤ (108 : Int32) ∧ (108 : Int32) ≤ (122 : Int32) := by
                        exact ⟨by grind, by grind⟩
                      exact ok_some pf17
                  · have pf18 : (32 : Int32) ≤ (32 : Int32) ∧ (32 : Int32) ≤ (122 : Int32) := by
                      exact ⟨by grind, by grind⟩
                    exact ok_some pf18
                · refine ok_ite (fun q19 => ?_) (fun q19 => ?_)
                  · unfold f_X1_errorOf_J104
                    refine ok_ite (fun q20 => ?_) (fun q20 => ?_)
                    · refine ok_ite (fun q21 => ?_) (fun q21 => ?_)
                      · have pf22 : (32 : Int32) ≤ (32 : Int32) ∧ (32 : Int32) ≤ (122 : Int32) := by
                          exact ⟨by grind, by grind⟩
                        exact ok_some pf22
                      · have pf23 : (32 : Int32) ≤ (108 : Int32) ∧ (108 : Int32) ≤ (122 : Int32) := by
                          exact ⟨by grind, by grind⟩
                        exact ok_some pf23
                    · have pf24 : (32 : Int32) ≤ (32 : Int32) ∧ (32 : Int32) ≤ (122 : Int32) := by
                        exact ⟨by grind, by grind⟩
                      exact ok_some pf24
                  · have pf25 : (32 : Int32) ≤ (118 : Int32) ∧ (118 : Int32) ≤ (122 : Int32) := by
                      exact ⟨by grind, by grind⟩
                    exact ok_some pf25
              · refine ok_ite (fun q26 => ?_) (fun q26 => ?_)
                · unfold f_X1_errorOf_J82
                  unfold f_X1_errorOf_J87
                  refine ok_ite (fun q27 => ?_) (fun q27 => ?_)
                  · unfold f_X1_errorOf_J104
                    refine ok_ite (fun q28 => ?_) (fun q28 => ?_)
                    · refine ok_ite (fun q29 => ?_) (fun q29 => ?_)
                      · have pf30 : (32 : Int32) ≤ (32 : Int32) ∧ (32 : Int32) ≤ (122 : Int32) := by
                          exact ⟨by grind, by grind⟩
                        exact ok_some pf30
                      · have pf31 : (32 : Int32) ≤ (108 : Int32) ∧ (108 : Int32) ≤ (122 : Int32) := by
                          exact ⟨by grind, by grind⟩
                        exact ok_some pf31
                    · have pf32 : (32 : Int32) ≤ (32 : Int32) ∧ (32 : Int32) ≤ (122 : Int32) := by
                        exact ⟨by grind, by grind⟩
                      exact ok_some pf32
                  · refine ok_ite (fun q33 => ?_) (fun q33 => ?_)
                    · unfold f_X1_errorOf_J104
                      refine ok_ite (fun q34 => ?_) (fun q34 => ?_)
                      · refine ok_ite (fun q35 => ?_) (fun q35 => ?_)
                        · have pf36 : (32 : Int32) ≤ (32 : Int32) ∧ (32 : Int32) ≤ (122 : Int32) := by
                            exact ⟨by grind, by grind⟩
                          exact ok_some pf36
                        · have pf37 : (32 : Int32) ≤ (108 : Int32) ∧ (108 : Int32) ≤ (122 : Int32) := by
                            exact ⟨by grind, by grind⟩
                          exact ok_some pf37
                      · have pf38 : (32 : Int32) ≤ (32 : Int32) ∧ (32 : Int32) ≤ (122 : Int32) := by
                          exact ⟨by grind, by grind⟩
                        exact ok_some pf38
                    · have pf39 : (32 : Int32) ≤ (118 : Int32) ∧ (118 : Int32) ≤ (122 : Int32) := by
                        exact ⟨by grind, by grind⟩
                      exact ok_some pf39
                · refine ok_ite (fun q40 => ?_) (fun q40 => ?_)
                  · unfold f_X1_errorOf_J82
                    unfold f_X1_errorOf_J87
                    refine ok_ite (fun q41 => ?_) (fun q41 => ?_)
                    · unfold f_X1_errorOf_J104
                      refine ok_ite (fun q42 => ?_) (fun q42 => ?_)
                      · refine ok_ite (fun q43 => ?_) (fun q43 => ?_)
                        · have pf44 : (32 : Int32) ≤ (32 : Int32) ∧ (32 : Int32) ≤ (122 : Int32) := by
                            exact ⟨by grind, by grind⟩
                          exact ok_some pf44
                        · have pf45 : (32 : Int32) ≤ (108 : Int32) ∧ (108 : Int32) ≤ (122 : Int32) := by
                            exact ⟨by grind, by grind⟩
                          exact ok_some pf45
                      · have pf46 : (32 : Int32) ≤ (32 : Int32) ∧ (32 : Int32) ≤ (122 : Int32) := by
                          exact ⟨by grind, by grind⟩
                        exact ok_some pf46
                    · refine ok_ite (fun q47 => ?_) (fun q47 => ?_)
                      · unfold f_X1_errorOf_J104
                        refine ok_ite (fun q48 => ?_) (fun q48 => ?_)
                        · refine ok_ite (fun q49 => ?_) (fun q49 => ?_)
                          · have pf50 : (32 : Int32) ≤ (32 : Int32) ∧ (32 : Int32) ≤ (122 : Int32) := by
                              exact ⟨by grind, by grind⟩
                            exact ok_some pf50
                          · have pf51 : (32 : Int32) ≤ (108 : Int32) ∧ (108 : Int32) ≤ (122 : Int32) := by
                              exact ⟨by grind, by grind⟩
                            exact ok_some pf51
                        · have pf52 : (32 : Int32) ≤ (32 : Int32) ∧ (32 : Int32) ≤ (122 : Int32) := by
                            exact ⟨by grind, by grind⟩
                          exact ok_some pf52
                      · have pf53 : (32 : Int32) ≤ (118 : Int32) ∧ (118 : Int32) ≤ (122 : Int32) := by
                          exact ⟨by grind, by grind⟩
                        exact ok_some pf53
                  · unfold f_X1_errorOf_J87
                    refine ok_ite (fun q54 => ?_) (fun q54 => ?_)
                    · unfold f_X1_errorOf_J104
                      refine ok_ite (fun q55 => ?_) (fun q55 => ?_)
                      · refine ok_ite (fun q56 => ?_) (fun q56 => ?_)
                        · have pf57 : (32 : Int32) ≤ (32 : Int32) ∧ (32 : Int32) ≤ (122 : Int32) := by
                            exact ⟨by grind, by grind⟩
                          exact ok_some pf57
                        · have pf58 : (32 : Int32) ≤ (108 : Int32) ∧ (108 : Int32) ≤ (122 : Int32) := by
                            exact ⟨by grind, by grind⟩
                          exact ok_some pf58
                      · have pf59 : (32 : Int32) ≤ (32 : Int32) ∧ (32 : Int32) ≤ (122 : Int32) := by
                          exact ⟨by grind, by grind⟩
                        exact ok_some pf59
                    · refine ok_ite (fun q60 => ?_) (fun q60 => ?_)
                      · unfold f_X1_errorOf_J104
                        refine ok_ite (fun q61 => ?_) (fun q61 => ?_)
                        · refine ok_ite (fun q62 => ?_) (fun q62 => ?_)
                          · have pf63 : (32 : Int32) ≤ (32 : Int32) ∧ (32 : Int32) ≤ (122 : Int32) := by
                              exact ⟨by grind, by grind⟩
                            exact ok_some pf63
                          · have pf64 : (32 : Int32) ≤ (108 : Int32) ∧ (108 : Int32) ≤ (122 : Int32) := by
                              exact ⟨by grind, by grind⟩
                            exact ok_some pf64
                        · have pf65 : (32 : Int32) ≤ (32 : Int32) ∧ (32 : Int32) ≤ (122 : Int32) := by
                            exact ⟨by grind, by grind⟩
                          exact ok_some pf65
                      · have pf66 : (32 : Int32) ≤ (118 : Int32) ∧ (118 : Int32) ≤ (122 : Int32) := by
                          exact ⟨by grind, by grind⟩
                        exact ok_some pf66
          · unfold f_X1_errorOf_J64
            refine ok_ite (fun q67 => ?_) (fun q67 => ?_)
            · unfold f_X1_errorOf_J82
              unfold f_X1_errorOf_J87
              refine ok_ite (fun q68 => ?_) (fun q68 => ?_)
              · unfold f_X1_errorOf_J104
                refine ok_ite (fun q69 => ?_) (fun q69 => ?_)
                · refine ok_ite (fun q70 => ?_) (fun q70 => ?_)
                  · have pf71 : (32 : Int32) ≤ (32 : Int32) ∧ (32 : Int32) ≤ (122 : Int32) := by
                      exact ⟨by grind, by grind⟩
                    exact ok_some pf71
                  · have pf72 : (32 : Int32) ≤ (108 : Int32) ∧ (108 : Int32) ≤ (122 : Int32) := by
                      exact ⟨by grind, by grind⟩
                    exact ok_some pf72
                · have pf73 : (32 : Int32) ≤ (32 : Int32) ∧ (32 : Int32) ≤ (122 : Int32) := by
                    exact ⟨by grind, by grind⟩
                  exact ok_some pf73
              · refine ok_ite (fun q74 => ?_) (fun q74 => ?_)
                · unfold f_X1_errorOf_J104
                  refine ok_ite (fun q75 => ?_) (fun q75 => ?_)
                  · refine ok_ite (fun q76 => ?_) (fun q76 => ?_)
                    · have pf77 : (32 : Int32) ≤ (32 : Int32) ∧ (32 : Int32) ≤ (122 : Int32) := by
                        exact ⟨by grind, by grind⟩
                      exact ok_some pf77
                    · have pf78 : (32 : Int32) ≤ (108 : Int32) ∧ (108 : Int32) ≤ (122 : Int32) := by
                        exact ⟨by grind, by grind⟩
                      exact ok_some pf78
                  · have pf79 : (32 : Int32) ≤ (32 : Int32) ∧ (32 : Int32) ≤ (122 : Int32) := by
                      exact ⟨by grind, by grind⟩
                    exact ok_some pf79
                · have pf80 : (32 : Int32) ≤ (118 : Int32) ∧ (118 : Int32) ≤ (122 : Int32) := by
                    exact ⟨by grind, by grind⟩
                  exact ok_some pf80
            · refine ok_ite (fun q81 => ?_) (fun q81 => ?_)
              · unfold f_X1_errorOf_J82
                unfold f_X1_errorOf_J87
                refine ok_ite (fun q82 => ?_) (fun q82 => ?_)
                · unfold f_X1_errorOf_J104
                  refine ok_ite (fun q83 => ?_) (fun q83 => ?_)
                  · refine ok_ite (fun q84 => ?_) (fun q84 => ?_)
                    · have pf85 : (32 : Int32) ≤ (32 : Int32) ∧ (32 : Int32) ≤ (122 : Int32) := by
                        exact ⟨by grind, by grind⟩
                      exact ok_some pf85
                    · have pf86 : (32 : Int32) ≤ (108 : Int32) ∧ (108 : Int32) ≤ (122 : Int32) := by
                        exact ⟨by grind, by grind⟩
                      exact ok_some pf86
                  · have pf87 : (32 : Int32) ≤ (32 : Int32) ∧ (32 : Int32) ≤ (122 : Int32) := by
                      exact ⟨by grind, by grind⟩
                    exact ok_some pf87
                · refine ok_ite (fun q88 => ?_) (fun q88 => ?_)
                  · unfold f_X1_errorOf_J104
                    refine ok_ite (fun q89 => ?_) (fun q89 => ?_)
                    · refine ok_ite (fun q90 => ?_) (fun q90 => ?_)
                      · have pf91 : (32 : Int32) ≤ (32 : Int32) ∧ (32 : Int32) ≤ (122 : Int32) := by
                          exact ⟨by grind, by grind⟩
                        exact ok_some pf91
                      · have pf92 : (32 : Int32) ≤ (108 : Int32) ∧ (108 : Int32) ≤ (122 : Int32) := by
                          exact ⟨by grind, by grind⟩
                        exact ok_some pf92
                    · have pf93 : (32 : Int32) ≤ (32 : Int32) ∧ (32 : Int32) ≤ (122 : Int32) := by
                        exact ⟨by grind, by grind⟩
                      exact ok_some pf93
                  · have pf94 : (32 : Int32) ≤ (118 : Int32) ∧ (118 : Int32) ≤ (122 : Int32) := by
                      exact ⟨by grind, by grind⟩
                    exact ok_some pf94
              · refine ok_ite (fun q95 => ?_) (fun q95 => ?_)
                · unfold f_X1_errorOf_J82
                  unfold f_X1_errorOf_J87
                  refine ok_ite (fun q96 => ?_) (fun q96 => ?_)
                  · unfold f_X1_errorOf_J104
                    refine ok_ite (fun q97 => ?_) (fun q97 => ?_)
                    · refine ok_ite (fun q98 => ?_) (fun q98 => ?_)
                      · have pf99 : (32 : Int32) ≤ (32 : Int32) ∧ (32 : Int32) ≤ (122 : Int32) := by
                          exact ⟨by grind, by grind⟩
                        exact ok_some pf99
                      · have pf100 : (32 : Int32) ≤ (108 : Int32) ∧ (108 : Int32) ≤ (122 : Int32) := by
                          exact ⟨by grind, by grind⟩
                        exact ok_some pf100
                    · have pf101 : (32 : Int32) ≤ (32 : Int32) ∧ (32 : Int32) ≤ (122 : Int32) := by
                        exact ⟨by grind, by grind⟩
                      exact ok_some pf101
                  · refine ok_ite (fun q102 => ?_) (fun q102 => ?_)
                    · unfold f_X1_errorOf_J104
                      refine ok_ite (fun q103 => ?_) (fun q103 => ?_)
                      · refine ok_ite (fun q104 => ?_) (fun q104 => ?_)
                        · have pf105 : (32 : Int32) ≤ (32 : Int32) ∧ (32 : Int32) ≤ (122 : Int32) := by
                            exact ⟨by grind, by grind⟩
                          exact ok_some pf105
                        · have pf106 : (32 : Int32) ≤ (108 : Int32) ∧ (108 : Int32) ≤ (122 : Int32) := by
                            exact ⟨by grind, by grind⟩
                          exact ok_some pf106
                      · have pf107 : (32 : Int32) ≤ (32 : Int32) ∧ (32 : Int32) ≤ (122 : Int32) := by
                          exact ⟨by grind, by grind⟩
                        exact ok_some pf107
                    · have pf108 : (32 : Int32) ≤ (118 : Int32) ∧ (118 : Int32) ≤ (122 : Int32) := by
                        exact ⟨by grind, by grind⟩
                      exact ok_some pf108
                · unfold f_X1_errorOf_J87
                  refine ok_ite (fun q109 => ?_) (fun q109 => ?_)
                  · unfold f_X1_errorOf_J104
                    refine ok_ite (fun q110 => ?_) (fun q110 => ?_)
                    · refine ok_ite (fun q111 => ?_) (fun q111 => ?_)
                      · have pf112 : (32 : Int32) ≤ (32 : Int32) ∧ (32 : Int32) ≤ (122 : Int32) := by
                          exact ⟨by grind, by grind⟩
                        exact ok_some pf112
                      · have pf113 : (32 : Int32) ≤ (108 : Int32) ∧ (108 : Int32) ≤ (122 : Int32) := by
                          exact ⟨by grind, by grind⟩
                        exact ok_some pf113
                    · have pf114 : (32 : Int32) ≤ (32 : Int32) ∧ (32 : Int32) ≤ (122 : Int32) := by
                        exact ⟨by grind, by grind⟩
                      exact ok_some pf114
                  · refine ok_ite (fun q115 => ?_) (fun q115 => ?_)
                    · unfold f_X1_errorOf_J104
                      refine ok_ite (fun q116 => ?_) (fun q116 => ?_)
                      · refine ok_ite (fun q117 => ?_) (fun q117 => ?_)
                        · have pf118 : (32 : Int32) ≤ (32 : Int32) ∧ (32 : Int32) ≤ (122 : Int32) := by
                            exact ⟨by grind, by grind⟩
                          exact ok_some pf118
                        · have pf119 : (32 : Int32) ≤ (108 : Int32) ∧ (108 : Int32) ≤ (122 : Int32) := by
                            exact ⟨by grind, by grind⟩
                          exact ok_some pf119
                      · have pf120 : (32 : Int32) ≤ (32 : Int32) ∧ (32 : Int32) ≤ (122 : Int32) := by
                          exact ⟨by grind, by grind⟩
                        exact ok_some pf120
                    · have pf121 : (32 : Int32) ≤ (118 : Int32) ∧ (118 : Int32) ≤ (122 : Int32) := by
                        exact ⟨by grind, by grind⟩
                      exact ok_some pf121
        · have pf122 : (32 : Int32) ≤ (101 : Int32) ∧ (101 : Int32) ≤ (122 : Int32) := by
            exact ⟨by grind, by grind⟩
          exact ok_some pf122
      · unfold f_X1_errorOf_J47
        refine ok_ite (fun q123 => ?_) (fun q123 => ?_)
        · refine ok_b0 (s_X1_numberUnder X hX i0 (0 : Int32) (show (0 : Int32) ≤ (0 : Int32) ∧ (0 : Int32) ≤ (1 : Int32) from ⟨by decide, by decide⟩)) (fun v19 w124 => ?_)
          refine ok_ite (fun q125 => ?_) (fun q125 => ?_)
          · have pf126 : (32 : Int32) ≤ (122 : Int32) ∧ (122 : Int32) ≤ (122 : Int32) := by
              exact ⟨by grind, by grind⟩
            exact ok_some pf126
          · unfold f_X1_errorOf_J64
            refine ok_ite (fun q127 => ?_) (fun q127 => ?_)
            · unfold f_X1_errorOf_J82
              unfold f_X1_errorOf_J87
              refine ok_ite (fun q128 => ?_) (fun q128 => ?_)
              · unfold f_X1_errorOf_J104
                refine ok_ite (fun q129 => ?_) (fun q129 => ?_)
                · refine ok_ite (fun q130 => ?_) (fun q130 => ?_)
                  · have pf131 : (32 : Int32) ≤ (32 : Int32) ∧ (32 : Int32) ≤ (122 : Int32) := by
                      exact ⟨by grind, by grind⟩
                    exact ok_some pf131
                  · have pf132 : (32 : Int32) ≤ (108 : Int32) ∧ (108 : Int32) ≤ (122 : Int32) := by
                      exact ⟨by grind, by grind⟩
                    exact ok_some pf132
                · have pf133 : (32 : Int32) ≤ (32 : Int32) ∧ (32 : Int32) ≤ (122 : Int32) := by
                    exact ⟨by grind, by grind⟩
                  exact ok_some pf133
              · refine ok_ite (fun q134 => ?_) (fun q134 => ?_)
                · unfold f_X1_errorOf_J104
                  refine ok_ite (fun q135 => ?_) (fun q135 => ?_)
                  · refine ok_ite (fun q136 => ?_) (fun q136 => ?_)
                    · have pf137 : (32 : Int32) ≤ (32 : Int32) ∧ (32 : Int32) ≤ (122 : Int32) := by
                        exact ⟨by grind, by grind⟩
                      exact ok_some pf137
                    · have pf138 : (32 : Int32) ≤ (108 : Int32) ∧ (108 : Int32) ≤ (122 : Int32) := by
                        exact ⟨by grind, by grind⟩
                      exact ok_some pf138
                  · have pf139 : (32 : Int32) ≤ (32 : Int32) ∧ (32 : Int32) ≤ (122 : Int32) := by
                      exact ⟨by grind, by grind⟩
                    exact ok_some pf139
                · have pf140 : (32 : Int32) ≤ (118 : Int32) ∧ (118 : Int32) ≤ (122 : Int32) := by
                    exact ⟨by grind, by grind⟩
                  exact ok_some pf140
            · refine ok_ite (fun q141 => ?_) (fun q141 => ?_)
              · unfold f_X1_errorOf_J82
                unfold f_X1_errorOf_J87
                refine ok_ite (fun q142 => ?_) (fun q142 => ?_)
                · unfold f_X1_errorOf_J104
                  refine ok_ite (fun q143 => ?_) (fun q143 => ?_)
                  · refine ok_ite (fun q144 => ?_) (fun q144 => ?_)
                    · have pf145 : (32 : Int32) ≤ (32 : Int32) ∧ (32 : Int32) ≤ (122 : Int32) := by
                        exact ⟨by grind, by grind⟩
                      exact ok_some pf145
                    · have pf146 : (32 : Int32) ≤ (108 : Int32) ∧ (108 : Int32) ≤ (122 : Int32) := by
                        exact ⟨by grind, by grind⟩
                      exact ok_some pf146
                  · have pf147 : (32 : Int32) ≤ (32 : Int32) ∧ (32 : Int32) ≤ (122 : Int32) := by
                      exact ⟨by grind, by grind⟩
                    exact ok_some pf147
                · refine ok_ite (fun q148 => ?_) (fun q148 => ?_)
                  · unfold f_X1_errorOf_J104
                    refine ok_ite (fun q149 => ?_) (fun q149 => ?_)
                    · refine ok_ite (fun q150 => ?_) (fun q150 => ?_)
                      · have pf151 : (32 : Int32) ≤ (32 : Int32) ∧ (32 : Int32) ≤ (122 : Int32) := by
                          exact ⟨by grind, by grind⟩
                        exact ok_some pf151
                      · have pf152 : (32 : Int32) ≤ (108 : Int32) ∧ (108 : Int32) ≤ (122 : Int32) := by
                          exact ⟨by grind, by grind⟩
                        exact ok_some pf152
                    · have pf153 : (32 : Int32) ≤ (32 : Int32) ∧ (32 : Int32) ≤ (122 : Int32) := by
                        exact ⟨by grind, by grind⟩
                      exact ok_some pf153
                  · have pf154 : (32 : Int32) ≤ (118 : Int32) ∧ (118 : Int32) ≤ (122 : Int32) := by
                      exact ⟨by grind, by grind⟩
                    exact ok_some pf154
              · refine ok_ite (fun q155 => ?_) (fun q155 => ?_)
                · unfold f_X1_errorOf_J82
                  unfold f_X1_errorOf_J87
                  refine ok_ite (fun q156 => ?_) (fun q156 => ?_)
                  · unfold f_X1_errorOf_J104
                    refine ok_ite (fun q157 => ?_) (fun q157 => ?_)
                    · refine ok_ite (fun q158 => ?_) (fun q158 => ?_)
                      · have pf159 : (32 : Int32) ≤ (32 : Int32) ∧ (32 : Int32) ≤ (122 : Int32) := by
                          exact ⟨by grind, by grind⟩
                        exact ok_some pf159
                      · have pf160 : (32 : Int32) ≤ (108 : Int32) ∧ (108 : Int32) ≤ (122 : Int32) := by
                          exact ⟨by grind, by grind⟩
                        exact ok_some pf160
                    · have pf161 : (32 : Int32) ≤ (32 : Int32) ∧ (32 : Int32) ≤ (122 : Int32) := by
                        exact ⟨by grind, by grind⟩
                      exact ok_some pf161
                  · refine ok_ite (fun q162 => ?_) (fun q162 => ?_)
                    · unfold f_X1_errorOf_J104
                      refine ok_ite (fun q163 => ?_) (fun q163 => ?_)
                      · refine ok_ite (fun q164 => ?_) (fun q164 => ?_)
                        · have pf165 : (32 : Int32) ≤ (32 : Int32) ∧ (32 : Int32) ≤ (122 : Int32) := by
                            exact ⟨by grind, by grind⟩
                          exact ok_some pf165
                        · have pf166 : (32 : Int32) ≤ (108 : Int32) ∧ (108 : Int32) ≤ (122 : Int32) := by
                            exact ⟨by grind, by grind⟩
                          exact ok_some pf166
                      · have pf167 : (32 : Int32) ≤ (32 : Int32) ∧ (32 : Int32) ≤ (122 : Int32) := by
                          exact ⟨by grind, by grind⟩
                        exact ok_some pf167
                    · have pf168 : (32 : Int32) ≤ (118 : Int32) ∧ (118 : Int32) ≤ (122 : Int32) := by
                        exact ⟨by grind, by grind⟩
                      exact ok_some pf168
                · unfold f_X1_errorOf_J87
                  refine ok_ite (fun q169 => ?_) (fun q169 => ?_)
                  · unfold f_X1_errorOf_J104
                    refine ok_ite (fun q170 => ?_) (fun q170 => ?_)
                    · refine ok_ite (fun q171 => ?_) (fun q171 => ?_)
                      · have pf172 : (32 : Int32) ≤ (32 : Int32) ∧ (32 : Int32) ≤ (122 : Int32) := by
                          exact ⟨by grind, by grind⟩
                        exact ok_some pf172
                      · have pf173 : (32 : Int32) ≤ (108 : Int32) ∧ (108 : Int32) ≤ (122 : Int32) := by
                          exact ⟨by grind, by grind⟩
                        exact ok_some pf173
                    · have pf174 : (32 : Int32) ≤ (32 : Int32) ∧ (32 : Int32) ≤ (122 : Int32) := by
                        exact ⟨by grind, by grind⟩
                      exact ok_some pf174
                  · refine ok_ite (fun q175 => ?_) (fun q175 => ?_)
                    · unfold f_X1_errorOf_J104
                      refine ok_ite (fun q176 => ?_) (fun q176 => ?_)
                      · refine ok_ite (fun q177 => ?_) (fun q177 => ?_)
                        · have pf178 : (32 : Int32) ≤ (32 : Int32) ∧ (32 : Int32) ≤ (122 : Int32) := by
                            exact ⟨by grind, by grind⟩
                          exact ok_some pf178
                        · have pf179 : (32 : Int32) ≤ (108 : Int32) ∧ (108 : Int32) ≤ (122 : Int32) := by
                            exact ⟨by grind, by grind⟩
                          exact ok_some pf179
                      · have pf180 : (32 : Int32) ≤ (32 : Int32) ∧ (32 : Int32) ≤ (122 : Int32) := by
                          exact ⟨by grind, by grind⟩
                        exact ok_some pf180
                    · have pf181 : (32 : Int32) ≤ (118 : Int32) ∧ (118 : Int32) ≤ (122 : Int32) := by
                        exact ⟨by grind, by grind⟩
                      exact ok_some pf181
        · unfold f_X1_errorOf_J64
          refine ok_ite (fun q182 => ?_) (fun q182 => ?_)
          · unfold f_X1_errorOf_J82
            unfold f_X1_errorOf_J87
            refine ok_ite (fun q183 => ?_) (fun q183 => ?_)
            · unfold f_X1_errorOf_J104
              refine ok_ite (fun q184 => ?_) (fun q184 => ?_)
              · refine ok_ite (fun q185 => ?_) (fun q185 => ?_)
                · have pf186 : (32 : Int32) ≤ (32 : Int32) ∧ (32 : Int32) ≤ (122 : Int32) := by
                    exact ⟨by grind, by grind⟩
                  exact ok_some pf186
                · have pf187 : (32 : Int32) ≤ (108 : Int32) ∧ (108 : Int32) ≤ (122 : Int32) := by
                    exact ⟨by grind, by grind⟩
                  exact ok_some pf187
              · have pf188 : (32 : Int32) ≤ (32 : Int32) ∧ (32 : Int32) ≤ (122 : Int32) := by
                  exact ⟨by grind, by grind⟩
                exact ok_some pf188
            · refine ok_ite (fun q189 => ?_) (fun q189 => ?_)
              · unfold f_X1_errorOf_J104
                refine ok_ite (fun q190 => ?_) (fun q190 => ?_)
                · refine ok_ite (fun q191 => ?_) (fun q191 => ?_)
                  · have pf192 : (32 : Int32) ≤ (32 : Int32) ∧ (32 : Int32) ≤ (122 : Int32) := by
                      exact ⟨by grind, by grind⟩
                    exact ok_some pf192
                  · have pf193 : (32 : Int32) ≤ (108 : Int32) ∧ (108 : Int32) ≤ (122 : Int32) := by
                      exact ⟨by grind, by grind⟩
                    exact ok_some pf193
                · have pf194 : (32 : Int32) ≤ (32 : Int32) ∧ (32 : Int32) ≤ (122 : Int32) := by
                    exact ⟨by grind, by grind⟩
                  exact ok_some pf194
              · have pf195 : (32 : Int32) ≤ (118 : Int32) ∧ (118 : Int32) ≤ (122 : Int32) := by
                  exact ⟨by grind, by grind⟩
                exact ok_some pf195
          · refine ok_ite (fun q196 => ?_) (fun q196 => ?_)
            · unfold f_X1_errorOf_J82
              unfold f_X1_errorOf_J87
              refine ok_ite (fun q197 => ?_) (fun q197 => ?_)
              · unfold f_X1_errorOf_J104
                refine ok_ite (fun q198 => ?_) (fun q198 => ?_)
                · refine ok_ite (fun q199 => ?_) (fun q199 => ?_)
                  · have pf200 : (32 : Int32) ≤ (32 : Int32) ∧ (32 : Int32) ≤ (122 : Int32) := by
                      exact ⟨by grind, by grind⟩
                    exact ok_some pf200
                  · have pf201 : (32 : Int32) ≤ (108 : Int32) ∧ (108 : Int32) ≤ (122 : Int32) := by
                      exact ⟨by grind, by grind⟩
                    exact ok_some pf201
                · have pf202 : (32 : Int32) ≤ (32 : Int32) ∧ (32 : Int32) ≤ (122 : Int32) := by
                    exact ⟨by grind, by grind⟩
                  exact ok_some pf202
              · refine ok_ite (fun q203 => ?_) (fun q203 => ?_)
                · unfold f_X1_errorOf_J104
                  refine ok_ite (fun q204 => ?_) (fun q204 => ?_)
                  · refine ok_ite (fun q205 => ?_) (fun q205 => ?_)
                    · have pf206 : (32 : Int32) ≤ (32 : Int32) ∧ (32 : Int32) ≤ (122 : Int32) := by
                        exact ⟨by grind, by grind⟩
                      exact ok_some pf206
                    · have pf207 : (32 : Int32) ≤ (108 : Int32) ∧ (108 : Int32) ≤ (122 : Int32) := by
                        exact ⟨by grind, by grind⟩
                      exact ok_some pf207
                  · have pf208 : (32 : Int32) ≤ (32 : Int32) ∧ (32 : Int32) ≤ (122 : Int32) := by
                      exact ⟨by grind, by grind⟩
                    exact ok_some pf208
                · have pf209 : (32 : Int32) ≤ (118 : Int32) ∧ (118 : Int32) ≤ (122 : Int32) := by
                    exact ⟨by grind, by grind⟩
                  exact ok_some pf209
            · refine ok_ite (fun q210 => ?_) (fun q210 => ?_)
              · unfold f_X1_errorOf_J82
                unfold f_X1_errorOf_J87
                refine ok_ite (fun q211 => ?_) (fun q211 => ?_)
                · unfold f_X1_errorOf_J104
                  refine ok_ite (fun q212 => ?_) (fun q212 => ?_)
                  · refine ok_ite (fun q213 => ?_) (fun q213 => ?_)
                    · have pf214 : (32 : Int32) ≤ (32 : Int32) ∧ (32 : Int32) ≤ (122 : Int32) := by
                        exact ⟨by grind, by grind⟩
                      exact ok_some pf214
                    · have pf215 : (32 : Int32) ≤ (108 : Int32) ∧ (108 : Int32) ≤ (122 : Int32) := by
                        exact ⟨by grind, by grind⟩
                      exact ok_some pf215
                  · have pf216 : (32 : Int32) ≤ (32 : Int32) ∧ (32 : Int32) ≤ (122 : Int32) := by
                      exact ⟨by grind, by grind⟩
                    exact ok_some pf216
                · refine ok_ite (fun q217 => ?_) (fun q217 => ?_)
                  · unfold f_X1_errorOf_J104
                    refine ok_ite (fun q218 => ?_) (fun q218 => ?_)
                    · refine ok_ite (fun q219 => ?_) (fun q219 => ?_)
                      · have pf220 : (32 : Int32) ≤ (32 : Int32) ∧ (32 : Int32) ≤ (122 : Int32) := by
                          exact ⟨by grind, by grind⟩
                        exact ok_some pf220
                      · have pf221 : (32 : Int32) ≤ (108 : Int32) ∧ (108 : Int32) ≤ (122 : Int32) := by
                          exact ⟨by grind, by grind⟩
                        exact ok_some pf221
                    · have pf222 : (32 : Int32) ≤ (32 : Int32) ∧ (32 : Int32) ≤ (122 : Int32) := by
                        exact ⟨by grind, by grind⟩
                      exact ok_some pf222
                  · have pf223 : (32 : Int32) ≤ (118 : Int32) ∧ (118 : Int32) ≤ (122 : Int32) := by
                      exact ⟨by grind, by grind⟩
                    exact ok_some pf223
              · unfold f_X1_errorOf_J87
                refine ok_ite (fun q224 => ?_) (fun q224 => ?_)
                · unfold f_X1_errorOf_J104
                  refine ok_ite (fun q225 => ?_) (fun q225 => ?_)
                  · refine ok_ite (fun q226 => ?_) (fun q226 => ?_)
                    · have pf227 : (32 : Int32) ≤ (32 : Int32) ∧ (32 : Int32) ≤ (122 : Int32) := by
                        exact ⟨by grind, by grind⟩
                      exact ok_some pf227
                    · have pf228 : (32 : Int32) ≤ (108 : Int32) ∧ (108 : Int32) ≤ (122 : Int32) := by
                        exact ⟨by grind, by grind⟩
                      exact ok_some pf228
                  · have pf229 : (32 : Int32) ≤ (32 : Int32) ∧ (32 : Int32) ≤ (122 : Int32) := by
                      exact ⟨by grind, by grind⟩
                    exact ok_some pf229
                · refine ok_ite (fun q230 => ?_) (fun q230 => ?_)
                  · unfold f_X1_errorOf_J104
                    refine ok_ite (fun q231 => ?_) (fun q231 => ?_)
                    · refine ok_ite (fun q232 => ?_) (fun q232 => ?_)
                      · have pf233 : (32 : Int32) ≤ (32 : Int32) ∧ (32 : Int32) ≤ (122 : Int32) := by
                          exact ⟨by grind, by grind⟩
                        exact ok_some pf233
                      · have pf234 : (32 : Int32) ≤ (108 : Int32) ∧ (108 : Int32) ≤ (122 : Int32) := by
                          exact ⟨by grind, by grind⟩
                        exact ok_some pf234
                    · have pf235 : (32 : Int32) ≤ (32 : Int32) ∧ (32 : Int32) ≤ (122 : Int32) := by
                        exact ⟨by grind, by grind⟩
                      exact ok_some pf235
                  · have pf236 : (32 : Int32) ≤ (118 : Int32) ∧ (118 : Int32) ≤ (122 : Int32) := by
                      exact ⟨by grind, by grind⟩
                    exact ok_some pf236
    · have pf237 : (32 : Int32) ≤ (117 : Int32) ∧ (117 : Int32) ≤ (122 : Int32) := by
        exact ⟨by grind, by grind⟩
      exact ok_some pf237
  · have pf238 : (32 : Int32) ≤ (116 : Int32) ∧ (116 : Int32) ≤ (122 : Int32) := by
      exact ⟨by grind, by grind⟩
    exact ok_some pf238
theorem s_X1_replace {A : Nat → Nat → Nat → Prop} {B : SS} (X : SS) (hX : IV A B X) (i0 : Nat) (p0 : Int32) (ip0 : (0 : Int32) ≤ p0 ∧ p0 ≤ (2 : Int32)) (p1 : Int32) (a1 : A 16 i0 4) (a2 : ∀ p, A 17 i0 p) : ok (f_X1_replace X i0 p0 p1) (fun r => IV A B r.1 ∧ True) := by
  unfold f_X1_replace
  refine ok_ite (fun q1 => ?_) (fun q1 => ?_)
  · unfold f_X1_replace_J19
    refine ok_lq (fun X3 eq_2 => ?_)
    have hX3 : IV A B X3 := by rw [eq_2]; exact hX.w1 rfl (a1) (show (0 : Int32) ≤ (0 : Int32) ∧ (0 : Int32) ≤ (12 : Int32) from ⟨by decide, by decide⟩)
    refine ok_ite (fun q3 => ?_) (fun q3 => ?_)
    · have c4 : (X3.1 16 i0 4) = (0 : Int32) := by rw [eq_2]; exact up_s
      exfalso
      grind
    · have c5 : (X3.1 16 i0 4) = (0 : Int32) := by rw [eq_2]; exact up_s
      refine ok_gd ?_ (fun g6 => ?_)
      · have c7 : (0 : Int32) ≤ (X3.1 16 i0 4) ∧ (X3.1 16 i0 4) ≤ (12 : Int32) := hX3.at1 16 i0 4
        have c8 : (X3.1 16 i0 4) = (0 : Int32) := by rw [eq_2]; exact up_s
        have c9 : (0 : Int32) ≤ (X.1 16 i0 4) ∧ (X.1 16 i0 4) ≤ (12 : Int32) := hX.at1 16 i0 4
        exact vp_of (by decide) (by grind) (show (X3.1 16 i0 4) < (12 : Int32) by grind)
      have g6 := vp_to (by decide) g6
      have g6 : (0 : Int32) ≤ (X3.1 16 i0 4) ∧ (X3.1 16 i0 4) < (12 : Int32) := g6
      refine ok_lq (fun X6 eq_10 => ?_)
      have hX6 : IV A B X6 := by rw [eq_10]; exact hX3.w1f rfl (a2 (((X3.1 16 i0 4)).toNatClampNeg)) rfl
      refine ok_lq (fun X7 eq_11 => ?_)
      have pf12 : (0 : Int32) ≤ ((X6.1 16 i0 4) + (1 : Int32)) ∧ ((X6.1 16 i0 4) + (1 : Int32)) ≤ (12 : Int32) := by
        have c13 : (0 : Int32) ≤ (X6.1 16 i0 4) ∧ (X6.1 16 i0 4) ≤ (12 : Int32) := hX6.at1 16 i0 4
        have c14 : (X6.1 16 i0 4) = (X3.1 16 i0 4) := by rw [eq_10]; exact up_k (by decide)
        have c15 : (0 : Int32) ≤ (X.1 16 i0 4) ∧ (X.1 16 i0 4) ≤ (12 : Int32) := hX.at1 16 i0 4
        have c16 : (0 : Int32) ≤ (X3.1 16 i0 4) ∧ (X3.1 16 i0 4) ≤ (12 : Int32) := hX3.at1 16 i0 4
        have c17 : (X3.1 16 i0 4) = (0 : Int32) := by rw [eq_2]; exact up_s
        exact ⟨by grind, by grind⟩
      have hX7 : IV A B X7 := by rw [eq_11]; exact hX6.w1 rfl (a1) pf12
      exact ok_some ⟨hX7, trivial⟩
  · unfold f_X1_replace_J19
    refine ok_lq (fun X3 eq_18 => ?_)
    have pf19 : (0 : Int32) ≤ ((X.1 16 i0 4) - p0) ∧ ((X.1 16 i0 4) - p0) ≤ (12 : Int32) := by
      have c20 : (0 : Int32) ≤ (X.1 16 i0 4) ∧ (X.1 16 i0 4) ≤ (12 : Int32) := hX.at1 16 i0 4
      exact ⟨by grind, by grind⟩
    have hX3 : IV A B X3 := by rw [eq_18]; exact hX.w1 rfl (a1) pf19
    refine ok_ite (fun q21 => ?_) (fun q21 => ?_)
    · have c22 : (X3.1 16 i0 4) = ((X.1 16 i0 4) - p0) := by rw [eq_18]; exact up_s
      exact ok_some ⟨hX3, trivial⟩
    · have c23 : (X3.1 16 i0 4) = ((X.1 16 i0 4) - p0) := by rw [eq_18]; exact up_s
      refine ok_gd ?_ (fun g24 => ?_)
      · have c25 : (0 : Int32) ≤ (X3.1 16 i0 4) ∧ (X3.1 16 i0 4) ≤ (12 : Int32) := hX3.at1 16 i0 4
        have c26 : (X3.1 16 i0 4) = ((X.1 16 i0 4) - p0) := by rw [eq_18]; exact up_s
        have c27 : (0 : Int32) ≤ (X.1 16 i0 4) ∧ (X.1 16 i0 4) ≤ (12 : Int32) := hX.at1 16 i0 4
        exact vp_of (by decide) (by grind) (show (X3.1 16 i0 4) < (12 : Int32) by grind)
      have g24 := vp_to (by decide) g24
      have g24 : (0 : Int32) ≤ (X3.1 16 i0 4) ∧ (X3.1 16 i0 4) < (12 : Int32) := g24
      refine ok_lq (fun X6 eq_28 => ?_)
      have hX6 : IV A B X6 := by rw [eq_28]; exact hX3.w1f rfl (a2 (((X3.1 16 i0 4)).toNatClampNeg)) rfl
      refine ok_lq (fun X7 eq_29 => ?_)
      have pf30 : (0 : Int32) ≤ ((X6.1 16 i0 4) + (1 : Int32)) ∧ ((X6.1 16 i0 4) + (1 : Int32)) ≤ (12 : Int32) := by
        have c31 : (0 : Int32) ≤ (X6.1 16 i0 4) ∧ (X6.1 16 i0 4) ≤ (12 : Int32) := hX6.at1 16 i0 4
        have c32 : (X6.1 16 i0 4) = (X3.1 16 i0 4) := by rw [eq_28]; exact up_k (by decide)
        have c33 : (0 : Int32) ≤ (X.1 16 i0 4) ∧ (X.1 16 i0 4) ≤ (12 : Int32) := hX.at1 16 i0 4
        have c34 : (0 : Int32) ≤ (X3.1 16 i0 4) ∧ (X3.1 16 i0 4) ≤ (12 : Int32) := hX3.at1 16 i0 4
        have c35 : (X3.1 16 i0 4) = ((X.1 16 i0 4) - p0) := by rw [eq_18]; exact up_s
        exact ⟨by grind, by grind⟩
      have hX7 : IV A B X7 := by rw [eq_29]; exact hX6.w1 rfl (a1) pf30
      exact ok_some ⟨hX7, trivial⟩
theorem s_X1_nextInput {A : Nat → Nat → Nat → Prop} {B : SS} (X : SS) (hX : IV A B X) (i0 : Nat) (i1 : Nat) (a1 : A 16 i0 7) : ok (f_X1_nextInput X i0 i1) (fun r => IV A B r.1 ∧ True) := by
  unfold f_X1_nextInput
  refine ok_ite (fun q1 => ?_) (fun q1 => ?_)
  · refine ok_lq (fun X2 eq_2 => ?_)
    have pf3 : (0 : Int32) ≤ ((X.1 16 i0 7) + (1 : Int32)) ∧ ((X.1 16 i0 7) + (1 : Int32)) ≤ (4 : Int32) := by
      have c4 : (0 : Int32) ≤ (X.1 16 i0 7) ∧ (X.1 16 i0 7) ≤ (4 : Int32) := hX.at1 16 i0 7
      have c5 : (0 : Int32) ≤ (X.1 4 i1 2) ∧ (X.1 4 i1 2) ≤ (4 : Int32) := hX.at1 4 i1 2
      exact ⟨by grind, by grind⟩
    have hX2 : IV A B X2 := by rw [eq_2]; exact hX.w1 rfl (a1) pf3
    refine ok_gd ?_ (fun g6 => ?_)
    · have c7 : (0 : Int32) ≤ (X2.1 16 i0 7) ∧ (X2.1 16 i0 7) ≤ (4 : Int32) := hX2.at1 16 i0 7
      have c8 : (X2.1 16 i0 7) = ((X.1 16 i0 7) + (1 : Int32)) := by rw [eq_2]; exact up_s
      have c9 : (0 : Int32) ≤ (X.1 16 i0 7) ∧ (X.1 16 i0 7) ≤ (4 : Int32) := hX.at1 16 i0 7
      have c10 : (0 : Int32) ≤ (X.1 4 i1 2) ∧ (X.1 4 i1 2) ≤ (4 : Int32) := hX.at1 4 i1 2
      exact vp_of (by decide) (by grind) (show ((X2.1 16 i0 7) - (1 : Int32)) < (4 : Int32) by grind)
    have g6 := vp_to (by decide) g6
    have g6 : (0 : Int32) ≤ ((X2.1 16 i0 7) - (1 : Int32)) ∧ ((X2.1 16 i0 7) - (1 : Int32)) < (4 : Int32) := g6
    exact ok_some ⟨hX2, trivial⟩
  · exact ok_some ⟨hX, trivial⟩
theorem s_X1_pop {A : Nat → Nat → Nat → Prop} {B : SS} (X : SS) (hX : IV A B X) (i0 : Nat) (a1 : A 16 i0 4) : ok (f_X1_pop X i0) (fun r => IV A B r.1 ∧ True) := by
  unfold f_X1_pop
  refine ok_ite (fun q1 => ?_) (fun q1 => ?_)
  · refine ok_lq (fun X2 eq_2 => ?_)
    have hX2 : IV A B X2 := by rw [eq_2]; exact hX.w1 rfl (a1) (show (0 : Int32) ≤ (0 : Int32) ∧ (0 : Int32) ≤ (12 : Int32) from ⟨by decide, by decide⟩)
    exact ok_some ⟨hX2, trivial⟩
  · refine ok_lq (fun X3 eq_3 => ?_)
    have pf4 : (0 : Int32) ≤ ((X.1 16 i0 4) - (1 : Int32)) ∧ ((X.1 16 i0 4) - (1 : Int32)) ≤ (12 : Int32) := by
      have c5 : (0 : Int32) ≤ (X.1 16 i0 4) ∧ (X.1 16 i0 4) ≤ (12 : Int32) := hX.at1 16 i0 4
      exact ⟨by grind, by grind⟩
    have hX3 : IV A B X3 := by rw [eq_3]; exact hX.w1 rfl (a1) pf4
    exact ok_some ⟨hX3, trivial⟩
theorem s_X1_write {A : Nat → Nat → Nat → Prop} {B : SS} (X : SS) (hX : IV A B X) (i0 : Nat) (p0 : Int32) (a1 : A 16 i0 5) (a2 : ∀ p, A 18 i0 p) : ok (f_X1_write X i0 p0) (fun r => IV A B r.1 ∧ True) := by
  unfold f_X1_write
  refine ok_ite (fun q1 => ?_) (fun q1 => ?_)
  · exact ok_some ⟨hX, trivial⟩
  · refine ok_gd ?_ (fun g2 => ?_)
    · have c3 : (0 : Int32) ≤ (X.1 16 i0 5) ∧ (X.1 16 i0 5) ≤ (6 : Int32) := hX.at1 16 i0 5
      exact vp_of (by decide) (by grind) (show (X.1 16 i0 5) < (6 : Int32) by grind)
    have g2 := vp_to (by decide) g2
    have g2 : (0 : Int32) ≤ (X.1 16 i0 5) ∧ (X.1 16 i0 5) < (6 : Int32) := g2
    refine ok_lq (fun X3 eq_4 => ?_)
    have hX3 : IV A B X3 := by rw [eq_4]; exact hX.w1f rfl (a2 (((X.1 16 i0 5)).toNatClampNeg)) rfl
    refine ok_lq (fun X4 eq_5 => ?_)
    have pf6 : (0 : Int32) ≤ ((X3.1 16 i0 5) + (1 : Int32)) ∧ ((X3.1 16 i0 5) + (1 : Int32)) ≤ (6 : Int32) := by
      have c7 : (0 : Int32) ≤ (X3.1 16 i0 5) ∧ (X3.1 16 i0 5) ≤ (6 : Int32) := hX3.at1 16 i0 5
      have c8 : (X3.1 16 i0 5) = (X.1 16 i0 5) := by rw [eq_4]; exact up_k (by decide)
      have c9 : (0 : Int32) ≤ (X.1 16 i0 5) ∧ (X.1 16 i0 5) ≤ (6 : Int32) := hX.at1 16 i0 5
      exact ⟨by grind, by grind⟩
    have hX4 : IV A B X4 := by rw [eq_5]; exact hX3.w1 rfl (a1) pf6
    exact ok_some ⟨hX4, trivial⟩
theorem s_X1_perform {A : Nat → Nat → Nat → Prop} {B : SS} (X : SS) (hX : IV A B X) (i0 : Nat) (p0 : Int32) (ip0 : (0 : Int32) ≤ p0 ∧ p0 ≤ (65535 : Int32)) (p1 : Int32) (i3 : Nat) (x0 : (X.1 16 i0 8) < (24 : Int32)) (a1 : A 16 i0 4) (a2 : A 16 i0 5) (a3 : A 16 i0 7) (a4 : A 16 i0 8) (a5 : ∀ p, A 17 i0 p) (a6 : ∀ p, A 18 i0 p) : ok (f_X1_perform X i0 p0 p1 i3) (fun r => IV A B r.1 ∧ True) := by
  unfold f_X1_perform
  refine ok_b0 (s_X1_numberUnder X hX i0 (0 : Int32) (show (0 : Int32) ≤ (0 : Int32) ∧ (0 : Int32) ≤ (1 : Int32) from ⟨by decide, by decide⟩)) (fun v1 w1 => ?_)
  refine ok_b0 (s_X1_numberUnder X hX i0 (1 : Int32) (show (0 : Int32) ≤ (1 : Int32) ∧ (1 : Int32) ≤ (1 : Int32) from ⟨by decide, by decide⟩)) (fun v3 w2 => ?_)
  refine ok_lq (fun v5 eq_3 => ?_)
  refine ok_ite (fun q4 => ?_) (fun q4 => ?_)
  · refine ok_ite (fun q5 => ?_) (fun q5 => ?_)
    · refine ok_b1 (s_X1_replace X hX i0 (2 : Int32) (show (0 : Int32) ≤ (2 : Int32) ∧ (2 : Int32) ≤ (2 : Int32) from ⟨by decide, by decide⟩) (0 : Int32) (a1) (fun p => a5 p)) (fun X15 v14 w6 => ?_)
      have hX15 : IV A B X15 := w6.1
      refine ok_lq (fun X17 eq_7 => ?_)
      have pf8 : (0 : Int32) ≤ v5 ∧ v5 ≤ (24 : Int32) := by
        have c9 : (0 : Int32) ≤ (X.1 16 i0 8) ∧ (X.1 16 i0 8) ≤ (24 : Int32) := hX.at1 16 i0 8
        exact ⟨by grind, by grind⟩
      have hX17 : IV A B X17 := by rw [eq_7]; exact hX15.w1 rfl (a4) pf8
      exact ok_some ⟨hX17, trivial⟩
    · refine ok_gd ?_ (fun g10 => ?_)
      · grind
      refine ok_b1 (s_X1_replace X hX i0 (2 : Int32) (show (0 : Int32) ≤ (2 : Int32) ∧ (2 : Int32) ≤ (2 : Int32) from ⟨by decide, by decide⟩) (v3 - v3 / v1 * v1) (a1) (fun p => a5 p)) (fun X11 v10 w11 => ?_)
      have hX11 : IV A B X11 := w11.1
      refine ok_lq (fun X13 eq_12 => ?_)
      have pf13 : (0 : Int32) ≤ v5 ∧ v5 ≤ (24 : Int32) := by
        have c14 : (0 : Int32) ≤ (X.1 16 i0 8) ∧ (X.1 16 i0 8) ≤ (24 : Int32) := hX.at1 16 i0 8
        exact ⟨by grind, by grind⟩
      have hX13 : IV A B X13 := by rw [eq_12]; exact hX11.w1 rfl (a4) pf13
      exact ok_some ⟨hX13, trivial⟩
  · refine ok_ite (fun q15 => ?_) (fun q15 => ?_)
    · refine ok_b1 (s_X1_replace X hX i0 (2 : Int32) (show (0 : Int32) ≤ (2 : Int32) ∧ (2 : Int32) ≤ (2 : Int32) from ⟨by decide, by decide⟩) (v3 * v1) (a1) (fun p => a5 p)) (fun X20 v19 w16 => ?_)
      have hX20 : IV A B X20 := w16.1
      refine ok_lq (fun X22 eq_17 => ?_)
      have pf18 : (0 : Int32) ≤ v5 ∧ v5 ≤ (24 : Int32) := by
        have c19 : (0 : Int32) ≤ (X.1 16 i0 8) ∧ (X.1 16 i0 8) ≤ (24 : Int32) := hX.at1 16 i0 8
        exact ⟨by grind, by grind⟩
      have hX22 : IV A B X22 := by rw [eq_17]; exact hX20.w1 rfl (a4) pf18
      exact ok_some ⟨hX22, trivial⟩
    · refine ok_ite (fun q20 => ?_) (fun q20 => ?_)
      · refine ok_b1 (s_X1_replace X hX i0 (2 : Int32) (show (0 : Int32) ≤ (2 : Int32) ∧ (2 : Int32) ≤ (2 : Int32) from ⟨by decide, by decide⟩) (v3 + v1) (a1) (fun p => a5 p)) (fun X25 v24 w21 => ?_)
        have hX25 : IV A B X25 := w21.1
        refine ok_lq (fun X27 eq_22 => ?_)
        have pf23 : (0 : Int32) ≤ v5 ∧ v5 ≤ (24 : Int32) := by
          have c24 : (0 : Int32) ≤ (X.1 16 i0 8) ∧ (X.1 16 i0 8) ≤ (24 : Int32) := hX.at1 16 i0 8
          exact ⟨by grind, by grind⟩
        have hX27 : IV A B X27 := by rw [eq_22]; exact hX25.w1 rfl (a4) pf23
        exact ok_some ⟨hX27, trivial⟩
      · refine ok_ite (fun q25 => ?_) (fun q25 => ?_)
        · refine ok_b1 (s_X1_replace X hX i0 (2 : Int32) (show (0 : Int32) ≤ (2 : Int32) ∧ (2 : Int32) ≤ (2 : Int32) from ⟨by decide, by decide⟩) (v3 - v1) (a1) (fun p => a5 p)) (fun X30 v29 w26 => ?_)
          have hX30 : IV A B X30 := w26.1
          refine ok_lq (fun X32 eq_27 => ?_)
          have pf28 : (0 : Int32) ≤ v5 ∧ v5 ≤ (24 : Int32) := by
            have c29 : (0 : Int32) ≤ (X.1 16 i0 8) ∧ (X.1 16 i0 8) ≤ (24 : Int32) := hX.at1 16 i0 8
            exact ⟨by grind, by grind⟩
          have hX32 : IV A B X32 := by rw [eq_27]; exact hX30.w1 rfl (a4) pf28
          exact ok_some ⟨hX32, trivial⟩
        · refine ok_ite (fun q30 => ?_) (fun q30 => ?_)
          · refine ok_ite (fun q31 => ?_) (fun q31 => ?_)
            · refine ok_gd ?_ (fun g32 => ?_)
              · have c33 : (0 : Int32) ≤ (X.1 16 i0 8) ∧ (X.1 16 i0 8) ≤ (24 : Int32) := hX.at1 16 i0 8
                exact vp_of (by decide) (by grind) (show (X.1 16 i0 8) < (24 : Int32) by grind)
              have g32 := vp_to (by decide) g32
              have g32 : (0 : Int32) ≤ (X.1 16 i0 8) ∧ (X.1 16 i0 8) < (24 : Int32) := g32
              refine ok_lq (fun v37 eq_34 => ?_)
              refine ok_lq (fun X38 eq_35 => ?_)
              have pf36 : (0 : Int32) ≤ v37 ∧ v37 ≤ (24 : Int32) := by
                have c37 : (0 : Int32) ≤ (X.1 19 i0 ((X.1 16 i0 8)).toNatClampNeg) ∧ (X.1 19 i0 ((X.1 16 i0 8)).toNatClampNeg) ≤ (23 : Int32) := hX.at1 19 i0 (((X.1 16 i0 8)).toNatClampNeg)
                have c38 : (0 : Int32) ≤ (X.1 16 i0 8) ∧ (X.1 16 i0 8) ≤ (24 : Int32) := hX.at1 16 i0 8
                exact ⟨by grind, by grind⟩
              have hX38 : IV A B X38 := by rw [eq_35]; exact hX.w1 rfl (a4) pf36
              exact ok_some ⟨hX38, trivial⟩
            · refine ok_lq (fun X35 eq_39 => ?_)
              have pf40 : (0 : Int32) ≤ v5 ∧ v5 ≤ (24 : Int32) := by
                have c41 : (0 : Int32) ≤ (X.1 16 i0 8) ∧ (X.1 16 i0 8) ≤ (24 : Int32) := hX.at1 16 i0 8
                exact ⟨by grind, by grind⟩
              have hX35 : IV A B X35 := by rw [eq_39]; exact hX.w1 rfl (a4) pf40
              exact ok_some ⟨hX35, trivial⟩
          · refine ok_ite (fun q42 => ?_) (fun q42 => ?_)
            · refine ok_ite (fun q43 => ?_) (fun q43 => ?_)
              · refine ok_lq (fun X41 eq_44 => ?_)
                have pf45 : (0 : Int32) ≤ v5 ∧ v5 ≤ (24 : Int32) := by
                  have c46 : (0 : Int32) ≤ (X.1 16 i0 8) ∧ (X.1 16 i0 8) ≤ (24 : Int32) := hX.at1 16 i0 8
                  exact ⟨by grind, by grind⟩
                have hX41 : IV A B X41 := by rw [eq_44]; exact hX.w1 rfl (a4) pf45
                exact ok_some ⟨hX41, trivial⟩
              · refine ok_gd ?_ (fun g47 => ?_)
                · have c48 : (0 : Int32) ≤ (X.1 16 i0 8) ∧ (X.1 16 i0 8) ≤ (24 : Int32) := hX.at1 16 i0 8
                  exact vp_of (by decide) (by grind) (show (X.1 16 i0 8) < (24 : Int32) by grind)
                have g47 := vp_to (by decide) g47
                have g47 : (0 : Int32) ≤ (X.1 16 i0 8) ∧ (X.1 16 i0 8) < (24 : Int32) := g47
                refine ok_lq (fun v43 eq_49 => ?_)
                refine ok_lq (fun X44 eq_50 => ?_)
                have pf51 : (0 : Int32) ≤ v43 ∧ v43 ≤ (24 : Int32) := by
                  have c52 : (0 : Int32) ≤ (X.1 19 i0 ((X.1 16 i0 8)).toNatClampNeg) ∧ (X.1 19 i0 ((X.1 16 i0 8)).toNatClampNeg) ≤ (23 : Int32) := hX.at1 19 i0 (((X.1 16 i0 8)).toNatClampNeg)
                  have c53 : (0 : Int32) ≤ (X.1 16 i0 8) ∧ (X.1 16 i0 8) ≤ (24 : Int32) := hX.at1 16 i0 8
                  exact ⟨by grind, by grind⟩
                have hX44 : IV A B X44 := by rw [eq_50]; exact hX.w1 rfl (a4) pf51
                exact ok_some ⟨hX44, trivial⟩
            · refine ok_ite (fun q54 => ?_) (fun q54 => ?_)
              · refine ok_b1 (s_X1_replace X hX i0 (0 : Int32) (show (0 : Int32) ≤ (0 : Int32) ∧ (0 : Int32) ≤ (2 : Int32) from ⟨by decide, by decide⟩) v1 (a1) (fun p => a5 p)) (fun X47 v46 w55 => ?_)
                have hX47 : IV A B X47 := w55.1
                refine ok_lq (fun X49 eq_56 => ?_)
                have pf57 : (0 : Int32) ≤ v5 ∧ v5 ≤ (24 : Int32) := by
                  have c58 : (0 : Int32) ≤ (X.1 16 i0 8) ∧ (X.1 16 i0 8) ≤ (24 : Int32) := hX.at1 16 i0 8
                  exact ⟨by grind, by grind⟩
                have hX49 : IV A B X49 := by rw [eq_56]; exact hX47.w1 rfl (a4) pf57
                exact ok_some ⟨hX49, trivial⟩
              · refine ok_ite (fun q59 => ?_) (fun q59 => ?_)
                · refine ok_b1 (s_X1_nextInput X hX i0 i3 (a3)) (fun X52 v51 w60 => ?_)
                  have hX52 : IV A B X52 := w60.1
                  refine ok_b1 (s_X1_replace X52 hX52 i0 (0 : Int32) (show (0 : Int32) ≤ (0 : Int32) ∧ (0 : Int32) ≤ (2 : Int32) from ⟨by decide, by decide⟩) v51 (a1) (fun p => a5 p)) (fun X55 v54 w61 => ?_)
                  have hX55 : IV A B X55 := w61.1
                  refine ok_lq (fun X57 eq_62 => ?_)
                  have pf63 : (0 : Int32) ≤ v5 ∧ v5 ≤ (24 : Int32) := by
                    have c64 : (0 : Int32) ≤ (X.1 16 i0 8) ∧ (X.1 16 i0 8) ≤ (24 : Int32) := hX.at1 16 i0 8
                    exact ⟨by grind, by grind⟩
                  have hX57 : IV A B X57 := by rw [eq_62]; exact hX55.w1 rfl (a4) pf63
                  exact ok_some ⟨hX57, trivial⟩
                · refine ok_ite (fun q65 => ?_) (fun q65 => ?_)
                  · refine ok_b1 (s_X1_replace X hX i0 (0 : Int32) (show (0 : Int32) ≤ (0 : Int32) ∧ (0 : Int32) ≤ (2 : Int32) from ⟨by decide, by decide⟩) p1 (a1) (fun p => a5 p)) (fun X60 v59 w66 => ?_)
                    have hX60 : IV A B X60 := w66.1
                    refine ok_lq (fun X62 eq_67 => ?_)
                    have pf68 : (0 : Int32) ≤ v5 ∧ v5 ≤ (24 : Int32) := by
                      have c69 : (0 : Int32) ≤ (X.1 16 i0 8) ∧ (X.1 16 i0 8) ≤ (24 : Int32) := hX.at1 16 i0 8
                      exact ⟨by grind, by grind⟩
                    have hX62 : IV A B X62 := by rw [eq_67]; exact hX60.w1 rfl (a4) pf68
                    exact ok_some ⟨hX62, trivial⟩
                  · refine ok_ite (fun q70 => ?_) (fun q70 => ?_)
                    · refine ok_b1 (s_X1_pop X hX i0 (a1)) (fun X65 v64 w71 => ?_)
                      have hX65 : IV A B X65 := w71.1
                      refine ok_b1 (s_X1_write X65 hX65 i0 v1 (a2) (fun p => a6 p)) (fun X68 v67 w72 => ?_)
                      have hX68 : IV A B X68 := w72.1
                      refine ok_lq (fun X70 eq_73 => ?_)
                      have pf74 : (0 : Int32) ≤ v5 ∧ v5 ≤ (24 : Int32) := by
                        have c75 : (0 : Int32) ≤ (X.1 16 i0 8) ∧ (X.1 16 i0 8) ≤ (24 : Int32) := hX.at1 16 i0 8
                        exact ⟨by grind, by grind⟩
                      have hX70 : IV A B X70 := by rw [eq_73]; exact hX68.w1 rfl (a4) pf74
                      exact ok_some ⟨hX70, trivial⟩
                    · refine ok_ite (fun q76 => ?_) (fun q76 => ?_)
                      · refine ok_b1 (s_X1_pop X hX i0 (a1)) (fun X73 v72 w77 => ?_)
                        have hX73 : IV A B X73 := w77.1
                        refine ok_lq (fun X75 eq_78 => ?_)
                        have pf79 : (0 : Int32) ≤ v5 ∧ v5 ≤ (24 : Int32) := by
                          have c80 : (0 : Int32) ≤ (X.1 16 i0 8) ∧ (X.1 16 i0 8) ≤ (24 : Int32) := hX.at1 16 i0 8
                          exact ⟨by grind, by grind⟩
                        have hX75 : IV A B X75 := by rw [eq_78]; exact hX73.w1 rfl (a4) pf79
                        exact ok_some ⟨hX75, trivial⟩
                      · refine ok_ite (fun q81 => ?_) (fun q81 => ?_)
                        · refine ok_b1 (s_X1_replace X hX i0 (2 : Int32) (show (0 : Int32) ≤ (2 : Int32) ∧ (2 : Int32) ≤ (2 : Int32) from ⟨by decide, by decide⟩) v1 (a1) (fun p => a5 p)) (fun X78 v77 w82 => ?_)
                          have hX78 : IV A B X78 := w82.1
                          refine ok_b1 (s_X1_replace X78 hX78 i0 (0 : Int32) (show (0 : Int32) ≤ (0 : Int32) ∧ (0 : Int32) ≤ (2 : Int32) from ⟨by decide, by decide⟩) v3 (a1) (fun p => a5 p)) (fun X81 v80 w83 => ?_)
                          have hX81 : IV A B X81 := w83.1
                          refine ok_lq (fun X83 eq_84 => ?_)
                          have pf85 : (0 : Int32) ≤ v5 ∧ v5 ≤ (24 : Int32) := by
                            have c86 : (0 : Int32) ≤ (X.1 16 i0 8) ∧ (X.1 16 i0 8) ≤ (24 : Int32) := hX.at1 16 i0 8
                            exact ⟨by grind, by grind⟩
                          have hX83 : IV A B X83 := by rw [eq_84]; exact hX81.w1 rfl (a4) pf85
                          exact ok_some ⟨hX83, trivial⟩
                        · refine ok_lq (fun X84 eq_87 => ?_)
                          have pf88 : (0 : Int32) ≤ v5 ∧ v5 ≤ (24 : Int32) := by
                            have c89 : (0 : Int32) ≤ (X.1 16 i0 8) ∧ (X.1 16 i0 8) ≤ (24 : Int32) := hX.at1 16 i0 8
                            exact ⟨by grind, by grind⟩
                          have hX84 : IV A B X84 := by rw [eq_87]; exact hX.w1 rfl (a4) pf88
                          exact ok_some ⟨hX84, trivial⟩
theorem s_X1_isAsExpected_L15 {A : Nat → Nat → Nat → Prop} {B : SS} (X : SS) (hX : IV A B X) (i0 : Nat) (i1 : Nat) : ∀ (n : Nat), ∀ (v3 : Int32) (k2 : (Unit → Option (Int32))), (FU v3 6 n) → ((0 : Int32) ≤ v3 ∧ v3 ≤ (6 : Int32)) → (∀ (k_0 : Unit), ok (k2 k_0) (fun r => (0 : Int32) ≤ r ∧ r ≤ (1 : Int32))) → ok (f_X1_isAsExpected_L15 X i0 i1 n v3 k2) (fun r => (0 : Int32) ≤ r ∧ r ≤ (1 : Int32)) := by
  intro n
  induction n with
  | zero =>
    intro v3 k2 hF iv3 hk
    exact (FU.stop hF (show v3 ≤ (6 : Int32) by grind)).elim
  | succ n ih =>
    intro v3 k2 hF iv3 hk
    rw [f_X1_isAsExpected_L15]
    refine ok_ite (fun q1 => ?_) (fun q1 => ?_)
    · exact hk ()
    · refine ok_gd ?_ (fun g2 => ?_)
      · have c3 : (0 : Int32) ≤ (X.1 16 i0 5) ∧ (X.1 16 i0 5) ≤ (6 : Int32) := hX.at1 16 i0 5
        exact vp_of (by decide) (by grind) (show v3 < (6 : Int32) by grind)
      have g2 := vp_to (by decide) g2
      have g2 : (0 : Int32) ≤ v3 ∧ v3 < (6 : Int32) := g2
      refine ok_gd ?_ (fun g4 => ?_)
      · have c5 : (0 : Int32) ≤ (X.1 16 i0 5) ∧ (X.1 16 i0 5) ≤ (6 : Int32) := hX.at1 16 i0 5
        exact vp_of (by decide) (by grind) (show v3 < (6 : Int32) by grind)
      have g4 := vp_to (by decide) g4
      have g4 : (0 : Int32) ≤ v3 ∧ v3 < (6 : Int32) := g4
      refine ok_ite (fun q6 => ?_) (fun q6 => ?_)
      · have pf7 : FU (v3 + (1 : Int32)) 6 n := by
          have c8 : (0 : Int32) ≤ (X.1 16 i0 5) ∧ (X.1 16 i0 5) ≤ (6 : Int32) := hX.at1 16 i0 5
          exact FU.step hF (by grind)
        have pf9 : (0 : Int32) ≤ (v3 + (1 : Int32)) ∧ (v3 + (1 : Int32)) ≤ (6 : Int32) := by
          have c10 : (0 : Int32) ≤ (X.1 16 i0 5) ∧ (X.1 16 i0 5) ≤ (6 : Int32) := hX.at1 16 i0 5
          exact ⟨by grind, by grind⟩
        exact ih (v3 + (1 : Int32)) k2 pf7 pf9 hk
      · have pf11 : (0 : Int32) ≤ (0 : Int32) ∧ (0 : Int32) ≤ (1 : Int32) := by
          exact ⟨by grind, by grind⟩
        exact ok_some pf11
theorem s_X1_isAsExpected {A : Nat → Nat → Nat → Prop} {B : SS} (X : SS) (hX : IV A B X) (i0 : Nat) (i1 : Nat) : ok (f_X1_isAsExpected X i0 i1) (fun r => (0 : Int32) ≤ r ∧ r ≤ (1 : Int32)) := by
  unfold f_X1_isAsExpected
  refine ok_ite (fun q1 => ?_) (fun q1 => ?_)
  · have pf2 : FU (0 : Int32) 6 1000 := by
      exact FU.start (by grind) (by decide)
    refine s_X1_isAsExpected_L15 X hX i0 i1 1000 (0 : Int32) _ pf2 (show (0 : Int32) ≤ (0 : Int32) ∧ (0 : Int32) ≤ (6 : Int32) from ⟨by decide, by decide⟩) (fun _ => ?_)
    have pf3 : (0 : Int32) ≤ (1 : Int32) ∧ (1 : Int32) ≤ (1 : Int32) := by
      exact ⟨by grind, by grind⟩
    exact ok_some pf3
  · have pf4 : (0 : Int32) ≤ (0 : Int32) ∧ (0 : Int32) ≤ (1 : Int32) := by
      exact ⟨by grind, by grind⟩
    exact ok_some pf4
theorem s_X1_execute_L32 {A : Nat → Nat → Nat → Prop} {B : SS} (i1 : Nat) (i0 : Nat) (i2 : Nat) (a1 : A 16 i0 4) (a2 : A 16 i0 5) (a3 : A 16 i0 6) (a4 : A 16 i0 7) (a5 : A 16 i0 8) (a6 : ∀ p, A 17 i0 p) (a7 : ∀ p, A 18 i0 p) : ∀ (n : Nat), ∀ (v11 : Int32) (X12 : SS) (k9 : (SS → Option (SS × Int32))), (FU v11 301 n) → ((0 : Int32) ≤ v11 ∧ v11 ≤ (301 : Int32)) → (IV A B X12) → (∀ (k_0 : SS), (IV A B k_0) → ok (k9 k_0) (fun r => IV A B r.1 ∧ (33 : Int32) ≤ r.2 ∧ r.2 ≤ (122 : Int32))) → ok (f_X1_execute_L32 i1 i0 i2 n v11 X12 k9) (fun r => IV A B r.1 ∧ (33 : Int32) ≤ r.2 ∧ r.2 ≤ (122 : Int32)) := by
  intro n
  induction n with
  | zero =>
    intro v11 X12 k9 hF iv11 hX12 hk
    exact (FU.stop hF (show v11 ≤ (301 : Int32) by grind)).elim
  | succ n ih =>
    intro v11 X12 k9 hF iv11 hX12 hk
    rw [f_X1_execute_L32]
    refine ok_ite (fun q1 => ?_) (fun q1 => ?_)
    · exact hk X12 hX12
    · refine ok_ite (fun q2 => ?_) (fun q2 => ?_)
      · exact hk X12 hX12
      · refine ok_gd ?_ (fun g3 => ?_)
        · have c4 : (0 : Int32) ≤ (X12.1 16 i0 8) ∧ (X12.1 16 i0 8) ≤ (24 : Int32) := hX12.at1 16 i0 8
          have c5 : (0 : Int32) ≤ (X12.1 1 i1 2) ∧ (X12.1 1 i1 2) ≤ (24 : Int32) := hX12.at1 1 i1 2
          exact vp_of (by decide) (by grind) (show (X12.1 16 i0 8) < (24 : Int32) by grind)
        have g3 := vp_to (by decide) g3
        have g3 : (0 : Int32) ≤ (X12.1 16 i0 8) ∧ (X12.1 16 i0 8) < (24 : Int32) := g3
        refine ok_lq (fun v19 eq_6 => ?_)
        have pf7 : (0 : Int32) ≤ v19 ∧ v19 ≤ (65535 : Int32) := by
          have c8 : (0 : Int32) ≤ (X12.1 2 i1 ((X12.1 16 i0 8)).toNatClampNeg) ∧ (X12.1 2 i1 ((X12.1 16 i0 8)).toNatClampNeg) ≤ (65535 : Int32) := hX12.at1 2 i1 (((X12.1 16 i0 8)).toNatClampNeg)
          have c9 : (0 : Int32) ≤ (X12.1 16 i0 8) ∧ (X12.1 16 i0 8) ≤ (24 : Int32) := hX12.at1 16 i0 8
          have c10 : (0 : Int32) ≤ (X12.1 1 i1 2) ∧ (X12.1 1 i1 2) ≤ (24 : Int32) := hX12.at1 1 i1 2
          exact ⟨by grind, by grind⟩
        refine ok_b0 (s_X1_errorOf X12 hX12 i0 v19 pf7 i2) (fun v20 w11 => ?_)
        have w12 : (32 : Int32) ≤ v20 ∧ v20 ≤ (122 : Int32) := w11
        refine ok_ite (fun q13 => ?_) (fun q13 => ?_)
        · refine ok_gd ?_ (fun g14 => ?_)
          · have c15 : (0 : Int32) ≤ (X12.1 16 i0 8) ∧ (X12.1 16 i0 8) ≤ (24 : Int32) := hX12.at1 16 i0 8
            have c16 : (0 : Int32) ≤ (X12.1 1 i1 2) ∧ (X12.1 1 i1 2) ≤ (24 : Int32) := hX12.at1 1 i1 2
            exact vp_of (by decide) (by grind) (show (X12.1 16 i0 8) < (24 : Int32) by grind)
          have g14 := vp_to (by decide) g14
          have g14 : (0 : Int32) ≤ (X12.1 16 i0 8) ∧ (X12.1 16 i0 8) < (24 : Int32) := g14
          have pf17 : (0 : Int32) ≤ v19 ∧ v19 ≤ (65535 : Int32) := by
            have c18 : (0 : Int32) ≤ (X12.1 2 i1 ((X12.1 16 i0 8)).toNatClampNeg) ∧ (X12.1 2 i1 ((X12.1 16 i0 8)).toNatClampNeg) ≤ (65535 : Int32) := hX12.at1 2 i1 (((X12.1 16 i0 8)).toNatClampNeg)
            have c19 : (0 : Int32) ≤ (X12.1 16 i0 8) ∧ (X12.1 16 i0 8) ≤ (24 : Int32) := hX12.at1 16 i0 8
            have c20 : (0 : Int32) ≤ (X12.1 1 i1 2) ∧ (X12.1 1 i1 2) ≤ (24 : Int32) := hX12.at1 1 i1 2
            exact ⟨by grind, by grind⟩
          have pf21 : (X12.1 16 i0 8) < (24 : Int32) := by
            have c22 : (0 : Int32) ≤ (X12.1 16 i0 8) ∧ (X12.1 16 i0 8) ≤ (24 : Int32) := hX12.at1 16 i0 8
            have c23 : (0 : Int32) ≤ (X12.1 1 i1 2) ∧ (X12.1 1 i1 2) ≤ (24 : Int32) := hX12.at1 1 i1 2
            grind
          refine ok_b1 (s_X1_perform X12 hX12 i0 v19 pf17 (X12.1 3 i1 ((X12.1 16 i0 8)).toNatClampNeg) i2 pf21 (a1) (a2) (a4) (a5) (fun p => a6 p) (fun p => a7 p)) (fun X25 v24 w24 => ?_)
          have hX25 : IV A B X25 := w24.1
          refine ok_lq (fun X27 eq_25 => ?_)
          have hX27 : IV A B X27 := by rw [eq_25]; exact hX25.w1f rfl (a3) rfl
          have pf26 : FU (v11 + (1 : Int32)) 301 n := by
            exact FU.step hF (by grind)
          have pf27 : (0 : Int32) ≤ (v11 + (1 : Int32)) ∧ (v11 + (1 : Int32)) ≤ (301 : Int32) := by
            exact ⟨by grind, by grind⟩
          exact ih (v11 + (1 : Int32)) X27 k9 pf26 pf27 hX27 hk
        · refine ok_gd ?_ (fun g28 => ?_)
          · exact okc_of (by grind) (by grind)
          have pf29 : (33 : Int32) ≤ v20 ∧ v20 ≤ (122 : Int32) := by
            exact ⟨by grind, by grind⟩
          exact ok_some ⟨hX12, pf29⟩
theorem s_X1_execute {A : Nat → Nat → Nat → Prop} {B : SS} (X : SS) (hX : IV A B X) (i0 : Nat) (i1 : Nat) (i2 : Nat) (a1 : A 16 i0 4) (a2 : A 16 i0 5) (a3 : A 16 i0 6) (a4 : A 16 i0 7) (a5 : A 16 i0 8) (a6 : ∀ p, A 17 i0 p) (a7 : ∀ p, A 18 i0 p) (a8 : ∀ p, A 19 i0 p) (a9 : ∀ p, A 20 i0 p) : ok (f_X1_execute X i0 i1 i2) (fun r => IV A B r.1 ∧ (33 : Int32) ≤ r.2 ∧ r.2 ≤ (122 : Int32)) := by
  unfold f_X1_execute
  refine ok_b1 (s_X1_pairBrackets X hX i0 i1 (fun p => a8 p) (fun p => a9 p)) (fun X2 v1 w1 => ?_)
  have hX2 : IV A B X2 := w1.1
  refine ok_lq (fun X4 eq_2 => ?_)
  have hX4 : IV A B X4 := by rw [eq_2]; exact hX2.w1 rfl (a1) (show (0 : Int32) ≤ (0 : Int32) ∧ (0 : Int32) ≤ (12 : Int32) from ⟨by decide, by decide⟩)
  refine ok_lq (fun X5 eq_3 => ?_)
  have hX5 : IV A B X5 := by rw [eq_3]; exact hX4.w1 rfl (a2) (show (0 : Int32) ≤ (0 : Int32) ∧ (0 : Int32) ≤ (6 : Int32) from ⟨by decide, by decide⟩)
  refine ok_lq (fun X6 eq_4 => ?_)
  have hX6 : IV A B X6 := by rw [eq_4]; exact hX5.w1f rfl (a3) rfl
  refine ok_lq (fun X7 eq_5 => ?_)
  have hX7 : IV A B X7 := by rw [eq_5]; exact hX6.w1 rfl (a4) (show (0 : Int32) ≤ (0 : Int32) ∧ (0 : Int32) ≤ (4 : Int32) from ⟨by decide, by decide⟩)
  refine ok_lq (fun X8 eq_6 => ?_)
  have hX8 : IV A B X8 := by rw [eq_6]; exact hX7.w1 rfl (a5) (show (0 : Int32) ≤ (0 : Int32) ∧ (0 : Int32) ≤ (24 : Int32) from ⟨by decide, by decide⟩)
  have pf7 : FU (0 : Int32) 301 1000 := by
    exact FU.start (by grind) (by decide)
  refine s_X1_execute_L32 i1 i0 i2 (a1) (a2) (a3) (a4) (a5) (fun p => a6 p) (fun p => a7 p) 1000 (0 : Int32) X8 _ pf7 (show (0 : Int32) ≤ (0 : Int32) ∧ (0 : Int32) ≤ (301 : Int32) from ⟨by decide, by decide⟩) hX8 (fun X10 hX10 => ?_)
  refine ok_b0 (s_X1_isAsExpected X10 hX10 i0 i2) (fun v13 w8 => ?_)
  have w9 : (0 : Int32) ≤ v13 ∧ v13 ≤ (1 : Int32) := w8
  refine ok_ite (fun q10 => ?_) (fun q10 => ?_)
  · have pf11 : (33 : Int32) ≤ (119 : Int32) ∧ (119 : Int32) ≤ (122 : Int32) := by
      exact ⟨by grind, by grind⟩
    exact ok_some ⟨hX10, pf11⟩
  · have pf12 : (33 : Int32) ≤ (111 : Int32) ∧ (111 : Int32) ≤ (122 : Int32) := by
      exact ⟨by grind, by grind⟩
    exact ok_some ⟨hX10, pf12⟩
theorem s_X2_placeOfCopy_L2 {A : Nat → Nat → Nat → Prop} {B : SS} (X : SS) (hX : IV A B X) (i0 : Nat) (p0 : Int32) (ip0 : (0 : Int32) ≤ p0 ∧ p0 ≤ (39 : Int32)) : ∀ (n : Nat), ∀ (v2 : Int32) (k1 : (Unit → Option (Int32))), (FU v2 3 n) → ((0 : Int32) ≤ v2 ∧ v2 ≤ (3 : Int32)) → (∀ (k_0 : Unit), ok (k1 k_0) (fun r => ((-1) : Int32) ≤ r ∧ r ≤ (2 : Int32) ∧ (r = (-1) ∨ r < (X.1 9 i0 2)))) → ok (f_X2_placeOfCopy_L2 X i0 p0 n v2 k1) (fun r => ((-1) : Int32) ≤ r ∧ r ≤ (2 : Int32) ∧ (r = (-1) ∨ r < (X.1 9 i0 2))) := by
  intro n
  induction n with
  | zero =>
    intro v2 k1 hF iv2 hk
    exact (FU.stop hF (show v2 ≤ (3 : Int32) by grind)).elim
  | succ n ih =>
    intro v2 k1 hF iv2 hk
    rw [f_X2_placeOfCopy_L2]
    refine ok_ite (fun q1 => ?_) (fun q1 => ?_)
    · exact hk ()
    · refine ok_gd ?_ (fun g2 => ?_)
      · have c3 : (0 : Int32) ≤ (X.1 9 i0 2) ∧ (X.1 9 i0 2) ≤ (3 : Int32) := hX.at1 9 i0 2
        exact vp_of (by decide) (by grind) (show v2 < (3 : Int32) by grind)
      have g2 := vp_to (by decide) g2
      have g2 : (0 : Int32) ≤ v2 ∧ v2 < (3 : Int32) := g2
      refine ok_ite (fun q4 => ?_) (fun q4 => ?_)
      · have pf5 : ((-1) : Int32) ≤ v2 ∧ v2 ≤ (2 : Int32) ∧ (v2 = (-1) ∨ v2 < (X.1 9 i0 2)) := by
          have c6 : (0 : Int32) ≤ (X.1 9 i0 2) ∧ (X.1 9 i0 2) ≤ (3 : Int32) := hX.at1 9 i0 2
          grind
        exact ok_some pf5
      · have pf7 : FU (v2 + (1 : Int32)) 3 n := by
          have c8 : (0 : Int32) ≤ (X.1 9 i0 2) ∧ (X.1 9 i0 2) ≤ (3 : Int32) := hX.at1 9 i0 2
          exact FU.step hF (by grind)
        have pf9 : (0 : Int32) ≤ (v2 + (1 : Int32)) ∧ (v2 + (1 : Int32)) ≤ (3 : Int32) := by
          have c10 : (0 : Int32) ≤ (X.1 9 i0 2) ∧ (X.1 9 i0 2) ≤ (3 : Int32) := hX.at1 9 i0 2
          exact ⟨by grind, by grind⟩
        exact ih (v2 + (1 : Int32)) k1 pf7 pf9 hk
theorem s_X2_placeOfCopy {A : Nat → Nat → Nat → Prop} {B : SS} (X : SS) (hX : IV A B X) (i0 : Nat) (p0 : Int32) (ip0 : (0 : Int32) ≤ p0 ∧ p0 ≤ (39 : Int32)) : ok (f_X2_placeOfCopy X i0 p0) (fun r => ((-1) : Int32) ≤ r ∧ r ≤ (2 : Int32) ∧ (r = (-1) ∨ r < (X.1 9 i0 2))) := by
  unfold f_X2_placeOfCopy
  have pf1 : (0 : Int32) ≤ p0 ∧ p0 ≤ (39 : Int32) := by
    exact ⟨by grind, by grind⟩
  have pf2 : FU (0 : Int32) 3 1000 := by
    exact FU.start (by grind) (by decide)
  refine s_X2_placeOfCopy_L2 X hX i0 p0 pf1 1000 (0 : Int32) _ pf2 (show (0 : Int32) ≤ (0 : Int32) ∧ (0 : Int32) ≤ (3 : Int32) from ⟨by decide, by decide⟩) (fun _ => ?_)
  have pf3 : ((-1) : Int32) ≤ ((-1) : Int32) ∧ ((-1) : Int32) ≤ (2 : Int32) ∧ (((-1) : Int32) = (-1) ∨ ((-1) : Int32) < (X.1 9 i0 2)) := by
    have c4 : (0 : Int32) ≤ (X.1 9 i0 2) ∧ (X.1 9 i0 2) ≤ (3 : Int32) := hX.at1 9 i0 2
    grind
  exact ok_some pf3
theorem s_X3_take_L10 {A : Nat → Nat → Nat → Prop} {B : SS} (i0 : Nat) (i1 : Nat) (a1 : ∀ p, A 2 i0 p) (a2 : ∀ p, A 3 i0 p) : ∀ (n : Nat), ∀ (v4 : Int32) (X5 : SS) (k2 : (SS → Option (SS × Unit))), (FU v4 24 n) → ((0 : Int32) ≤ v4 ∧ v4 ≤ (24 : Int32)) → (IV A B X5) → (∀ (k_0 : SS), (IV A B k_0) → ok (k2 k_0) (fun r => IV A B r.1 ∧ True)) → ok (f_X3_take_L10 i0 i1 n v4 X5 k2) (fun r => IV A B r.1 ∧ True) := by
  intro n
  induction n with
  | zero =>
    intro v4 X5 k2 hF iv4 hX5 hk
    exact (FU.stop hF (show v4 ≤ (24 : Int32) by grind)).elim
  | succ n ih =>
    intro v4 X5 k2 hF iv4 hX5 hk
    rw [f_X3_take_L10]
    refine ok_ite (fun q1 => ?_) (fun q1 => ?_)
    · exact hk X5 hX5
    · refine ok_gd ?_ (fun g2 => ?_)
      · have c3 : (0 : Int32) ≤ (X5.1 1 i0 2) ∧ (X5.1 1 i0 2) ≤ (24 : Int32) := hX5.at1 1 i0 2
        exact vp_of (by decide) (by grind) (show v4 < (24 : Int32) by grind)
      have g2 := vp_to (by decide) g2
      have g2 : (0 : Int32) ≤ v4 ∧ v4 < (24 : Int32) := g2
      refine ok_gd ?_ (fun g4 => ?_)
      · have c5 : (0 : Int32) ≤ (X5.1 1 i0 2) ∧ (X5.1 1 i0 2) ≤ (24 : Int32) := hX5.at1 1 i0 2
        exact vp_of (by decide) (by grind) (show v4 < (24 : Int32) by grind)
      have g4 := vp_to (by decide) g4
      have g4 : (0 : Int32) ≤ v4 ∧ v4 < (24 : Int32) := g4
      refine ok_lq (fun X9 eq_6 => ?_)
      have pf7 : (0 : Int32) ≤ (vp_nar .char (X5.1 2 i1 (v4).toNatClampNeg)) ∧ (vp_nar .char (X5.1 2 i1 (v4).toNatClampNeg)) ≤ (65535 : Int32) := by
        have c8 : (0 : Int32) ≤ (vp_nar .char (X5.1 2 i1 (v4).toNatClampNeg)) ∧ (vp_nar .char (X5.1 2 i1 (v4).toNatClampNeg)) ≤ (65535 : Int32) := nar_c _
        have c9 : (0 : Int32) ≤ (X5.1 2 i1 (v4).toNatClampNeg) ∧ (X5.1 2 i1 (v4).toNatClampNeg) ≤ (65535 : Int32) := hX5.at1 2 i1 ((v4).toNatClampNeg)
        have c10 : (0 : Int32) ≤ (X5.1 1 i0 2) ∧ (X5.1 1 i0 2) ≤ (24 : Int32) := hX5.at1 1 i0 2
        exact ⟨by grind, by grind⟩
      have hX9 : IV A B X9 := by rw [eq_6]; exact hX5.w1 rfl (a1 ((v4).toNatClampNeg)) pf7
      refine ok_gd ?_ (fun g11 => ?_)
      · have c12 : (0 : Int32) ≤ (X5.1 1 i0 2) ∧ (X5.1 1 i0 2) ≤ (24 : Int32) := hX5.at1 1 i0 2
        exact vp_of (by decide) (by grind) (show v4 < (24 : Int32) by grind)
      have g11 := vp_to (by decide) g11
      have g11 : (0 : Int32) ≤ v4 ∧ v4 < (24 : Int32) := g11
      refine ok_gd ?_ (fun g13 => ?_)
      · have c14 : (0 : Int32) ≤ (X5.1 1 i0 2) ∧ (X5.1 1 i0 2) ≤ (24 : Int32) := hX5.at1 1 i0 2
        exact vp_of (by decide) (by grind) (show v4 < (24 : Int32) by grind)
      have g13 := vp_to (by decide) g13
      have g13 : (0 : Int32) ≤ v4 ∧ v4 < (24 : Int32) := g13
      refine ok_lq (fun X12 eq_15 => ?_)
      have hX12 : IV A B X12 := by rw [eq_15]; exact hX9.w1f rfl (a2 ((v4).toNatClampNeg)) rfl
      have pf16 : FU (v4 + (1 : Int32)) 24 n := by
        have c17 : (0 : Int32) ≤ (X5.1 1 i0 2) ∧ (X5.1 1 i0 2) ≤ (24 : Int32) := hX5.at1 1 i0 2
        exact FU.step hF (by grind)
      have pf18 : (0 : Int32) ≤ (v4 + (1 : Int32)) ∧ (v4 + (1 : Int32)) ≤ (24 : Int32) := by
        have c19 : (0 : Int32) ≤ (X5.1 1 i0 2) ∧ (X5.1 1 i0 2) ≤ (24 : Int32) := hX5.at1 1 i0 2
        exact ⟨by grind, by grind⟩
      exact ih (v4 + (1 : Int32)) X12 k2 pf16 pf18 hX12 hk
theorem s_X3_take {A : Nat → Nat → Nat → Prop} {B : SS} (X : SS) (hX : IV A B X) (i0 : Nat) (i1 : Nat) (a1 : A 1 i0 2) (a2 : ∀ p, A 2 i0 p) (a3 : ∀ p, A 3 i0 p) : ok (f_X3_take X i0 i1) (fun r => IV A B r.1 ∧ True) := by
  unfold f_X3_take
  refine ok_lq (fun X1 eq_1 => ?_)
  have pf2 : (0 : Int32) ≤ (X.1 1 i1 2) ∧ (X.1 1 i1 2) ≤ (24 : Int32) := by
    have c3 : (0 : Int32) ≤ (X.1 1 i1 2) ∧ (X.1 1 i1 2) ≤ (24 : Int32) := hX.at1 1 i1 2
    exact ⟨by grind, by grind⟩
  have hX1 : IV A B X1 := by rw [eq_1]; exact hX.w1 rfl (a1) pf2
  have pf4 : FU (0 : Int32) 24 1000 := by
    exact FU.start (by grind) (by decide)
  refine s_X3_take_L10 i0 i1 (fun p => a2 p) (fun p => a3 p) 1000 (0 : Int32) X1 _ pf4 (show (0 : Int32) ≤ (0 : Int32) ∧ (0 : Int32) ≤ (24 : Int32) from ⟨by decide, by decide⟩) hX1 (fun X3 hX3 => ?_)
  exact ok_some ⟨hX3, trivial⟩
theorem s_X2_keepCopy_L52 {A : Nat → Nat → Nat → Prop} {B : SS} (i0 : Nat) (ni0 : i0 < 10) (a1 : ∀ p, A 11 i0 p) (a2 : ∀ p, A 210 i0 p) : ∀ (n : Nat), ∀ (v12 : Int32) (X13 : SS) (k10 : (SS → Option (SS × Unit))), (FU v12 2 n) → ((0 : Int32) ≤ v12 ∧ v12 ≤ (2 : Int32)) → (IV A B X13) → ((1 : Int32) ≤ (X13.1 9 i0 2)) → (∀ (k_0 : SS), (IV A B k_0) → ((1 : Int32) ≤ (k_0.1 9 i0 2)) → ok (k10 k_0) (fun r => IV A B r.1 ∧ True)) → ok (f_X2_keepCopy_L52 i0 n v12 X13 k10) (fun r => IV A B r.1 ∧ True) := by
  intro n
  induction n with
  | zero =>
    intro v12 X13 k10 hF iv12 hX13 x0 hk
    exact (FU.stop hF (show v12 ≤ (2 : Int32) by grind)).elim
  | succ n ih =>
    intro v12 X13 k10 hF iv12 hX13 x0 hk
    rw [f_X2_keepCopy_L52]
    refine ok_ite (fun q1 => ?_) (fun q1 => ?_)
    · have pf2 : (1 : Int32) ≤ (X13.1 9 i0 2) := by
        have c3 : (0 : Int32) ≤ (X13.1 9 i0 2) ∧ (X13.1 9 i0 2) ≤ (3 : Int32) := hX13.at1 9 i0 2
        grind
      exact hk X13 hX13 pf2
    · refine ok_gd ?_ (fun g4 => ?_)
      · have c5 : (0 : Int32) ≤ (X13.1 9 i0 2) ∧ (X13.1 9 i0 2) ≤ (3 : Int32) := hX13.at1 9 i0 2
        exact vp_of (by decide) (by grind) (show (v12 + (1 : Int32)) < (3 : Int32) by grind)
      have g4 := vp_to (by decide) g4
      have g4 : (0 : Int32) ≤ (v12 + (1 : Int32)) ∧ (v12 + (1 : Int32)) < (3 : Int32) := g4
      refine ok_gd ?_ (fun g6 => ?_)
      · exact (hX13.at3 ni0 (cl_lt (n := 3) (by assumption))).2
      refine ok_gd ?_ (fun g7 => ?_)
      · have c8 : (0 : Int32) ≤ (X13.1 9 i0 2) ∧ (X13.1 9 i0 2) ≤ (3 : Int32) := hX13.at1 9 i0 2
        exact vp_of (by decide) (by grind) (show v12 < (3 : Int32) by grind)
      have g7 := vp_to (by decide) g7
      have g7 : (0 : Int32) ≤ v12 ∧ v12 < (3 : Int32) := g7
      refine ok_lq (fun X26 eq_9 => ?_)
      have hX26 : IV A B X26 := by rw [eq_9]; exact hX13.w3 (a2 ((v12).toNatClampNeg)) (hX13.at3 ni0 (cl_lt (n := 3) (by assumption)))
      refine ok_gd ?_ (fun g10 => ?_)
      · have c11 : (0 : Int32) ≤ (X13.1 9 i0 2) ∧ (X13.1 9 i0 2) ≤ (3 : Int32) := hX13.at1 9 i0 2
        exact vp_of (by decide) (by grind) (show (v12 + (1 : Int32)) < (3 : Int32) by grind)
      have g10 := vp_to (by decide) g10
      have g10 : (0 : Int32) ≤ (v12 + (1 : Int32)) ∧ (v12 + (1 : Int32)) < (3 : Int32) := g10
      refine ok_gd ?_ (fun g12 => ?_)
      · have c13 : (0 : Int32) ≤ (X13.1 9 i0 2) ∧ (X13.1 9 i0 2) ≤ (3 : Int32) := hX13.at1 9 i0 2
        exact vp_of (by decide) (by grind) (show v12 < (3 : Int32) by grind)
      have g12 := vp_to (by decide) g12
      have g12 : (0 : Int32) ≤ v12 ∧ v12 < (3 : Int32) := g12
      refine ok_lq (fun X29 eq_14 => ?_)
      have hX29 : IV A B X29 := by rw [eq_14]; exact hX26.w1f rfl (a1 ((v12).toNatClampNeg)) rfl
      have pf15 : FU (v12 + (1 : Int32)) 2 n := by
        have c16 : (0 : Int32) ≤ (X13.1 9 i0 2) ∧ (X13.1 9 i0 2) ≤ (3 : Int32) := hX13.at1 9 i0 2
        exact FU.step hF (by grind)
      have pf17 : (0 : Int32) ≤ (v12 + (1 : Int32)) ∧ (v12 + (1 : Int32)) ≤ (2 : Int32) := by
        have c18 : (0 : Int32) ≤ (X13.1 9 i0 2) ∧ (X13.1 9 i0 2) ≤ (3 : Int32) := hX13.at1 9 i0 2
        exact ⟨by grind, by grind⟩
      have pf19 : (1 : Int32) ≤ (X29.1 9 i0 2) := by
        have c20 : (0 : Int32) ≤ (X29.1 9 i0 2) ∧ (X29.1 9 i0 2) ≤ (3 : Int32) := hX29.at1 9 i0 2
        have c21 : (X29.1 9 i0 2) = (X26.1 9 i0 2) := by rw [eq_14]; exact up_k (by decide)
        have c22 : (0 : Int32) ≤ (X13.1 9 i0 2) ∧ (X13.1 9 i0 2) ≤ (3 : Int32) := hX13.at1 9 i0 2
        have c23 : (0 : Int32) ≤ (X26.1 9 i0 2) ∧ (X26.1 9 i0 2) ≤ (3 : Int32) := hX26.at1 9 i0 2
        have c24 : (X26.1 9 i0 2) = (X13.1 9 i0 2) := by rw [eq_9]; rfl
        grind
      exact ih (v12 + (1 : Int32)) X29 k10 pf15 pf17 hX29 pf19 hk
theorem s_X2_keepCopy {A : Nat → Nat → Nat → Prop} {B : SS} (X : SS) (hX : IV A B X) (i0 : Nat) (ni0 : i0 < 10) (p0 : Int32) (ip0 : (0 : Int32) ≤ p0 ∧ p0 ≤ (39 : Int32)) (i2 : Nat) (a1 : ∀ j, 1 ≤ j → A 1 j 2) (a2 : ∀ p, A 11 i0 p) (a3 : ∀ j p, 1 ≤ j → A 2 j p) (a4 : ∀ p, A 210 i0 p) (a5 : ∀ j p, 1 ≤ j → A 3 j p) (a6 : A 9 i0 2) : ok (f_X2_keepCopy X i0 p0 i2) (fun r => IV A B r.1 ∧ True) := by
  unfold f_X2_keepCopy
  have pf1 : (0 : Int32) ≤ p0 ∧ p0 ≤ (39 : Int32) := by
    exact ⟨by grind, by grind⟩
  refine ok_b0 (s_X2_placeOfCopy X hX i0 p0 pf1) (fun v1 w2 => ?_)
  have w3 : ((-1) : Int32) ≤ v1 ∧ v1 ≤ (2 : Int32) ∧ (v1 = (-1) ∨ v1 < (X.1 9 i0 2)) := w2
  refine ok_ite (fun q4 => ?_) (fun q4 => ?_)
  · refine ok_ite (fun q5 => ?_) (fun q5 => ?_)
    · unfold f_X2_keepCopy_J34
      refine ok_ite (fun q6 => ?_) (fun q6 => ?_)
      · unfold f_X2_keepCopy_J41
        refine ok_gd ?_ (fun g7 => ?_)
        · exact vp_of (by decide) (by grind) (show (0 : Int32) < (3 : Int32) by grind)
        have g7 := vp_to (by decide) g7
        have g7 : (0 : Int32) ≤ (0 : Int32) ∧ (0 : Int32) < (3 : Int32) := g7
        refine ok_gd ?_ (fun g8 => ?_)
        · exact (hX.at3 ni0 (cl_lt (n := 3) (by assumption))).2
        have pf9 : FU (0 : Int32) 2 1000 := by
          exact FU.start (by grind) (by decide)
        have pf10 : (1 : Int32) ≤ (X.1 9 i0 2) := by
          have c11 : (0 : Int32) ≤ (X.1 9 i0 2) ∧ (X.1 9 i0 2) ≤ (3 : Int32) := hX.at1 9 i0 2
          grind
        refine s_X2_keepCopy_L52 i0 ni0 (fun p => a2 p) (fun p => a4 p) 1000 (0 : Int32) X _ pf9 (show (0 : Int32) ≤ (0 : Int32) ∧ (0 : Int32) ≤ (2 : Int32) from ⟨by decide, by decide⟩) hX pf10 (fun X11 hX11 ek => ?_)
        have eq_12 : (1 : Int32) ≤ (X11.1 9 i0 2) := ek
        refine ok_lq (fun v14 eq_13 => ?_)
        refine ok_gd ?_ (fun g14 => ?_)
        · have c15 : (0 : Int32) ≤ (X11.1 9 i0 2) ∧ (X11.1 9 i0 2) ≤ (3 : Int32) := hX11.at1 9 i0 2
          have c16 : (0 : Int32) ≤ (X.1 9 i0 2) ∧ (X.1 9 i0 2) ≤ (3 : Int32) := hX.at1 9 i0 2
          exact vp_of (by decide) (by grind) (show v14 < (3 : Int32) by grind)
        have g14 := vp_to (by decide) g14
        have g14 : (0 : Int32) ≤ v14 ∧ v14 < (3 : Int32) := g14
        refine ok_lq (fun X16 eq_17 => ?_)
        have hX16 : IV A B X16 := by rw [eq_17]; exact hX11.w3 (a4 ((v14).toNatClampNeg)) (hX.at3 ni0 (cl_lt (n := 3) (by assumption)))
        refine ok_gd ?_ (fun g18 => ?_)
        · have c19 : (0 : Int32) ≤ (X11.1 9 i0 2) ∧ (X11.1 9 i0 2) ≤ (3 : Int32) := hX11.at1 9 i0 2
          have c20 : (0 : Int32) ≤ (X.1 9 i0 2) ∧ (X.1 9 i0 2) ≤ (3 : Int32) := hX.at1 9 i0 2
          exact vp_of (by decide) (by grind) (show v14 < (3 : Int32) by grind)
        have g18 := vp_to (by decide) g18
        have g18 : (0 : Int32) ≤ v14 ∧ v14 < (3 : Int32) := g18
        refine ok_lq (fun X18 eq_21 => ?_)
        have hX18 : IV A B X18 := by rw [eq_21]; exact hX16.w1f rfl (a2 ((v14).toNatClampNeg)) rfl
        refine ok_b1 (s_X3_take X18 hX18 (X.2.2.1 10 i0 ((0 : Int32)).toNatClampNeg) i2 (a1 (X.2.2.1 10 i0 ((0 : Int32)).toNatClampNeg) (by have := hX.at3 (i := i0) (p := ((0 : Int32)).toNatClampNeg) ni0 (cl_lt (n := 3) (by assumption)); omega)) (fun p => a3 (X.2.2.1 10 i0 ((0 : Int32)).toNatClampNeg) p (by have := hX.at3 (i := i0) (p := ((0 : Int32)).toNatClampNeg) ni0 (cl_lt (n := 3) (by assumption)); omega)) (fun p => a5 (X.2.2.1 10 i0 ((0 : Int32)).toNatClampNeg) p (by have := hX.at3 (i := i0) (p := ((0 : Int32)).toNatClampNeg) ni0 (cl_lt (n := 3) (by assumption)); omega))) (fun X20 v19 w22 => ?_)
        have hX20 : IV A B X20 := w22.1
        exact ok_some ⟨hX20, trivial⟩
      · unfold f_X2_keepCopy_J41
        refine ok_gd ?_ (fun g23 => ?_)
        · have c24 : (0 : Int32) ≤ (X.1 9 i0 2) ∧ (X.1 9 i0 2) ≤ (3 : Int32) := hX.at1 9 i0 2
          exact vp_of (by decide) (by grind) (show v1 < (3 : Int32) by grind)
        have g23 := vp_to (by decide) g23
        have g23 : (0 : Int32) ≤ v1 ∧ v1 < (3 : Int32) := g23
        refine ok_gd ?_ (fun g25 => ?_)
        · exact (hX.at3 ni0 (cl_lt (n := 3) (by assumption))).2
        have pf26 : FU v1 2 1000 := by
          have c27 : (0 : Int32) ≤ (X.1 9 i0 2) ∧ (X.1 9 i0 2) ≤ (3 : Int32) := hX.at1 9 i0 2
          exact FU.start (by grind) (by decide)
        have pf28 : (0 : Int32) ≤ v1 ∧ v1 ≤ (2 : Int32) := by
          have c29 : (0 : Int32) ≤ (X.1 9 i0 2) ∧ (X.1 9 i0 2) ≤ (3 : Int32) := hX.at1 9 i0 2
          exact ⟨by grind, by grind⟩
        have pf30 : (1 : Int32) ≤ (X.1 9 i0 2) := by
          have c31 : (0 : Int32) ≤ (X.1 9 i0 2) ∧ (X.1 9 i0 2) ≤ (3 : Int32) := hX.at1 9 i0 2
          grind
        refine s_X2_keepCopy_L52 i0 ni0 (fun p => a2 p) (fun p => a4 p) 1000 v1 X _ pf26 pf28 hX pf30 (fun X11 hX11 ek => ?_)
        have eq_32 : (1 : Int32) ≤ (X11.1 9 i0 2) := ek
        refine ok_lq (fun v14 eq_33 => ?_)
        refine ok_gd ?_ (fun g34 => ?_)
        · have c35 : (0 : Int32) ≤ (X11.1 9 i0 2) ∧ (X11.1 9 i0 2) ≤ (3 : Int32) := hX11.at1 9 i0 2
          have c36 : (0 : Int32) ≤ (X.1 9 i0 2) ∧ (X.1 9 i0 2) ≤ (3 : Int32) := hX.at1 9 i0 2
          exact vp_of (by decide) (by grind) (show v14 < (3 : Int32) by grind)
        have g34 := vp_to (by decide) g34
        have g34 : (0 : Int32) ≤ v14 ∧ v14 < (3 : Int32) := g34
        refine ok_lq (fun X16 eq_37 => ?_)
        have hX16 : IV A B X16 := by rw [eq_37]; exact hX11.w3 (a4 ((v14).toNatClampNeg)) (hX.at3 ni0 (cl_lt (n := 3) (by assumption)))
        refine ok_gd ?_ (fun g38 => ?_)
        · have c39 : (0 : Int32) ≤ (X11.1 9 i0 2) ∧ (X11.1 9 i0 2) ≤ (3 : Int32) := hX11.at1 9 i0 2
          have c40 : (0 : Int32) ≤ (X.1 9 i0 2) ∧ (X.1 9 i0 2) ≤ (3 : Int32) := hX.at1 9 i0 2
          exact vp_of (by decide) (by grind) (show v14 < (3 : Int32) by grind)
        have g38 := vp_to (by decide) g38
        have g38 : (0 : Int32) ≤ v14 ∧ v14 < (3 : Int32) := g38
        refine ok_lq (fun X18 eq_41 => ?_)
        have hX18 : IV A B X18 := by rw [eq_41]; exact hX16.w1f rfl (a2 ((v14).toNatClampNeg)) rfl
        refine ok_b1 (s_X3_take X18 hX18 (X.2.2.1 10 i0 (v1).toNatClampNeg) i2 (a1 (X.2.2.1 10 i0 (v1).toNatClampNeg) (by have := hX.at3 (i := i0) (p := (v1).toNatClampNeg) ni0 (cl_lt (n := 3) (by assumption)); omega)) (fun p => a3 (X.2.2.1 10 i0 (v1).toNatClampNeg) p (by have := hX.at3 (i := i0) (p := (v1).toNatClampNeg) ni0 (cl_lt (n := 3) (by assumption)); omega)) (fun p => a5 (X.2.2.1 10 i0 (v1).toNatClampNeg) p (by have := hX.at3 (i := i0) (p := (v1).toNatClampNeg) ni0 (cl_lt (n := 3) (by assumption)); omega))) (fun X20 v19 w42 => ?_)
        have hX20 : IV A B X20 := w42.1
        exact ok_some ⟨hX20, trivial⟩
    · refine ok_lq (fun v33 eq_43 => ?_)
      refine ok_lq (fun X34 eq_44 => ?_)
      have pf45 : (0 : Int32) ≤ ((X.1 9 i0 2) + (1 : Int32)) ∧ ((X.1 9 i0 2) + (1 : Int32)) ≤ (3 : Int32) := by
        have c46 : (0 : Int32) ≤ (X.1 9 i0 2) ∧ (X.1 9 i0 2) ≤ (3 : Int32) := hX.at1 9 i0 2
        exact ⟨by grind, by grind⟩
      have hX34 : IV A B X34 := by rw [eq_44]; exact hX.w1 rfl (a6) pf45
      unfold f_X2_keepCopy_J34
      refine ok_ite (fun q47 => ?_) (fun q47 => ?_)
      · unfold f_X2_keepCopy_J41
        refine ok_gd ?_ (fun g48 => ?_)
        · exact vp_of (by decide) (by grind) (show (0 : Int32) < (3 : Int32) by grind)
        have g48 := vp_to (by decide) g48
        have g48 : (0 : Int32) ≤ (0 : Int32) ∧ (0 : Int32) < (3 : Int32) := g48
        refine ok_gd ?_ (fun g49 => ?_)
        · exact (hX34.at3 ni0 (cl_lt (n := 3) (by assumption))).2
        have pf50 : FU (0 : Int32) 2 1000 := by
          exact FU.start (by grind) (by decide)
        have pf51 : (1 : Int32) ≤ (X34.1 9 i0 2) := by
          have c52 : (0 : Int32) ≤ (X34.1 9 i0 2) ∧ (X34.1 9 i0 2) ≤ (3 : Int32) := hX34.at1 9 i0 2
          have c53 : (X34.1 9 i0 2) = ((X.1 9 i0 2) + (1 : Int32)) := by rw [eq_44]; exact up_s
          have c54 : (0 : Int32) ≤ (X.1 9 i0 2) ∧ (X.1 9 i0 2) ≤ (3 : Int32) := hX.at1 9 i0 2
          grind
        refine s_X2_keepCopy_L52 i0 ni0 (fun p => a2 p) (fun p => a4 p) 1000 (0 : Int32) X34 _ pf50 (show (0 : Int32) ≤ (0 : Int32) ∧ (0 : Int32) ≤ (2 : Int32) from ⟨by decide, by decide⟩) hX34 pf51 (fun X11 hX11 ek => ?_)
        have eq_55 : (1 : Int32) ≤ (X11.1 9 i0 2) := ek
        refine ok_lq (fun v14 eq_56 => ?_)
        refine ok_gd ?_ (fun g57 => ?_)
        · have c58 : (0 : Int32) ≤ (X11.1 9 i0 2) ∧ (X11.1 9 i0 2) ≤ (3 : Int32) := hX11.at1 9 i0 2
          have c59 : (0 : Int32) ≤ (X.1 9 i0 2) ∧ (X.1 9 i0 2) ≤ (3 : Int32) := hX.at1 9 i0 2
          exact vp_of (by decide) (by grind) (show v14 < (3 : Int32) by grind)
        have g57 := vp_to (by decide) g57
        have g57 : (0 : Int32) ≤ v14 ∧ v14 < (3 : Int32) := g57
        refine ok_lq (fun X16 eq_60 => ?_)
        have hX16 : IV A B X16 := by rw [eq_60]; exact hX11.w3 (a4 ((v14).toNatClampNeg)) (hX34.at3 ni0 (cl_lt (n := 3) (by assumption)))
        refine ok_gd ?_ (fun g61 => ?_)
        · have c62 : (0 : Int32) ≤ (X11.1 9 i0 2) ∧ (X11.1 9 i0 2) ≤ (3 : Int32) := hX11.at1 9 i0 2
          have c63 : (0 : Int32) ≤ (X.1 9 i0 2) ∧ (X.1 9 i0 2) ≤ (3 : Int32) := hX.at1 9 i0 2
          exact vp_of (by decide) (by grind) (show v14 < (3 : Int32) by grind)
        have g61 := vp_to (by decide) g61
        have g61 : (0 : Int32) ≤ v14 ∧ v14 < (3 : Int32) := g61
        refine ok_lq (fun X18 eq_64 => ?_)
        have hX18 : IV A B X18 := by rw [eq_64]; exact hX16.w1f rfl (a2 ((v14).toNatClampNeg)) rfl
        refine ok_b1 (s_X3_take X18 hX18 (X34.2.2.1 10 i0 ((0 : Int32)).toNatClampNeg) i2 (a1 (X34.2.2.1 10 i0 ((0 : Int32)).toNatClampNeg) (by have := hX34.at3 (i := i0) (p := ((0 : Int32)).toNatClampNeg) ni0 (cl_lt (n := 3) (by assumption)); omega)) (fun p => a3 (X34.2.2.1 10 i0 ((0 : Int32)).toNatClampNeg) p (by have := hX34.at3 (i := i0) (p := ((0 : Int32)).toNatClampNeg) ni0 (cl_lt (n := 3) (by assumption)); omega)) (fun p => a5 (X34.2.2.1 10 i0 ((0 : Int32)).toNatClampNeg) p (by have := hX34.at3 (i := i0) (p := ((0 : Int32)).toNatClampNeg) ni0 (cl_lt (n := 3) (by assumption)); omega))) (fun X20 v19 w65 => ?_)
        have hX20 : IV A B X20 := w65.1
        exact ok_some ⟨hX20, trivial⟩
      · unfold f_X2_keepCopy_J41
        refine ok_gd ?_ (fun g66 => ?_)
        · have c67 : (0 : Int32) ≤ (X.1 9 i0 2) ∧ (X.1 9 i0 2) ≤ (3 : Int32) := hX.at1 9 i0 2
          exact vp_of (by decide) (by grind) (show v33 < (3 : Int32) by grind)
        have g66 := vp_to (by decide) g66
        have g66 : (0 : Int32) ≤ v33 ∧ v33 < (3 : Int32) := g66
        refine ok_gd ?_ (fun g68 => ?_)
        · exact (hX34.at3 ni0 (cl_lt (n := 3) (by assumption))).2
        have pf69 : FU v33 2 1000 := by
          have c70 : (0 : Int32) ≤ (X.1 9 i0 2) ∧ (X.1 9 i0 2) ≤ (3 : Int32) := hX.at1 9 i0 2
          exact FU.start (by grind) (by decide)
        have pf71 : (0 : Int32) ≤ v33 ∧ v33 ≤ (2 : Int32) := by
          have c72 : (0 : Int32) ≤ (X.1 9 i0 2) ∧ (X.1 9 i0 2) ≤ (3 : Int32) := hX.at1 9 i0 2
          exact ⟨by grind, by grind⟩
        have pf73 : (1 : Int32) ≤ (X34.1 9 i0 2) := by
          have c74 : (0 : Int32) ≤ (X34.1 9 i0 2) ∧ (X34.1 9 i0 2) ≤ (3 : Int32) := hX34.at1 9 i0 2
          have c75 : (X34.1 9 i0 2) = ((X.1 9 i0 2) + (1 : Int32)) := by rw [eq_44]; exact up_s
          have c76 : (0 : Int32) ≤ (X.1 9 i0 2) ∧ (X.1 9 i0 2) ≤ (3 : Int32) := hX.at1 9 i0 2
          grind
        refine s_X2_keepCopy_L52 i0 ni0 (fun p => a2 p) (fun p => a4 p) 1000 v33 X34 _ pf69 pf71 hX34 pf73 (fun X11 hX11 ek => ?_)
        have eq_77 : (1 : Int32) ≤ (X11.1 9 i0 2) := ek
        refine ok_lq (fun v14 eq_78 => ?_)
        refine ok_gd ?_ (fun g79 => ?_)
        · have c80 : (0 : Int32) ≤ (X11.1 9 i0 2) ∧ (X11.1 9 i0 2) ≤ (3 : Int32) := hX11.at1 9 i0 2
          have c81 : (0 : Int32) ≤ (X.1 9 i0 2) ∧ (X.1 9 i0 2) ≤ (3 : Int32) := hX.at1 9 i0 2
          exact vp_of (by decide) (by grind) (show v14 < (3 : Int32) by grind)
        have g79 := vp_to (by decide) g79
        have g79 : (0 : Int32) ≤ v14 ∧ v14 < (3 : Int32) := g79
        refine ok_lq (fun X16 eq_82 => ?_)
        have hX16 : IV A B X16 := by rw [eq_82]; exact hX11.w3 (a4 ((v14).toNatClampNeg)) (hX34.at3 ni0 (cl_lt (n := 3) (by assumption)))
        refine ok_gd ?_ (fun g83 => ?_)
        · have c84 : (0 : Int32) ≤ (X11.1 9 i0 2) ∧ (X11.1 9 i0 2) ≤ (3 : Int32) := hX11.at1 9 i0 2
          have c85 : (0 : Int32) ≤ (X.1 9 i0 2) ∧ (X.1 9 i0 2) ≤ (3 : Int32) := hX.at1 9 i0 2
          exact vp_of (by decide) (by grind) (show v14 < (3 : Int32) by grind)
        have g83 := vp_to (by decide) g83
        have g83 : (0 : Int32) ≤ v14 ∧ v14 < (3 : Int32) := g83
        refine ok_lq (fun X18 eq_86 => ?_)
        have hX18 : IV A B X18 := by rw [eq_86]; exact hX16.w1f rfl (a2 ((v14).toNatClampNeg)) rfl
        refine ok_b1 (s_X3_take X18 hX18 (X34.2.2.1 10 i0 (v33).toNatClampNeg) i2 (a1 (X34.2.2.1 10 i0 (v33).toNatClampNeg) (by have := hX34.at3 (i := i0) (p := (v33).toNatClampNeg) ni0 (cl_lt (n := 3) (by assumption)); omega)) (fun p => a3 (X34.2.2.1 10 i0 (v33).toNatClampNeg) p (by have := hX34.at3 (i := i0) (p := (v33).toNatClampNeg) ni0 (cl_lt (n := 3) (by assumption)); omega)) (fun p => a5 (X34.2.2.1 10 i0 (v33).toNatClampNeg) p (by have := hX34.at3 (i := i0) (p := (v33).toNatClampNeg) ni0 (cl_lt (n := 3) (by assumption)); omega))) (fun X20 v19 w87 => ?_)
        have hX20 : IV A B X20 := w87.1
        exact ok_some ⟨hX20, trivial⟩
  · unfold f_X2_keepCopy_J34
    refine ok_ite (fun q88 => ?_) (fun q88 => ?_)
    · unfold f_X2_keepCopy_J41
      refine ok_gd ?_ (fun g89 => ?_)
      · exact vp_of (by decide) (by grind) (show (0 : Int32) < (3 : Int32) by grind)
      have g89 := vp_to (by decide) g89
      have g89 : (0 : Int32) ≤ (0 : Int32) ∧ (0 : Int32) < (3 : Int32) := g89
      refine ok_gd ?_ (fun g90 => ?_)
      · exact (hX.at3 ni0 (cl_lt (n := 3) (by assumption))).2
      have pf91 : FU (0 : Int32) 2 1000 := by
        exact FU.start (by grind) (by decide)
      have pf92 : (1 : Int32) ≤ (X.1 9 i0 2) := by
        have c93 : (0 : Int32) ≤ (X.1 9 i0 2) ∧ (X.1 9 i0 2) ≤ (3 : Int32) := hX.at1 9 i0 2
        grind
      refine s_X2_keepCopy_L52 i0 ni0 (fun p => a2 p) (fun p => a4 p) 1000 (0 : Int32) X _ pf91 (show (0 : Int32) ≤ (0 : Int32) ∧ (0 : Int32) ≤ (2 : Int32) from ⟨by decide, by decide⟩) hX pf92 (fun X11 hX11 ek => ?_)
      have eq_94 : (1 : Int32) ≤ (X11.1 9 i0 2) := ek
      refine ok_lq (fun v14 eq_95 => ?_)
      refine ok_gd ?_ (fun g96 => ?_)
      · have c97 : (0 : Int32) ≤ (X11.1 9 i0 2) ∧ (X11.1 9 i0 2) ≤ (3 : Int32) := hX11.at1 9 i0 2
        have c98 : (0 : Int32) ≤ (X.1 9 i0 2) ∧ (X.1 9 i0 2) ≤ (3 : Int32) := hX.at1 9 i0 2
        exact vp_of (by decide) (by grind) (show v14 < (3 : Int32) by grind)
      have g96 := vp_to (by decide) g96
      have g96 : (0 : Int32) ≤ v14 ∧ v14 < (3 : Int32) := g96
      refine ok_lq (fun X16 eq_99 => ?_)
      have hX16 : IV A B X16 := by rw [eq_99]; exact hX11.w3 (a4 ((v14).toNatClampNeg)) (hX.at3 ni0 (cl_lt (n := 3) (by assumption)))
      refine ok_gd ?_ (fun g100 => ?_)
      · have c101 : (0 : Int32) ≤ (X11.1 9 i0 2) ∧ (X11.1 9 i0 2) ≤ (3 : Int32) := hX11.at1 9 i0 2
        have c102 : (0 : Int32) ≤ (X.1 9 i0 2) ∧ (X.1 9 i0 2) ≤ (3 : Int32) := hX.at1 9 i0 2
        exact vp_of (by decide) (by grind) (show v14 < (3 : Int32) by grind)
      have g100 := vp_to (by decide) g100
      have g100 : (0 : Int32) ≤ v14 ∧ v14 < (3 : Int32) := g100
      refine ok_lq (fun X18 eq_103 => ?_)
      have hX18 : IV A B X18 := by rw [eq_103]; exact hX16.w1f rfl (a2 ((v14).toNatClampNeg)) rfl
      refine ok_b1 (s_X3_take X18 hX18 (X.2.2.1 10 i0 ((0 : Int32)).toNatClampNeg) i2 (a1 (X.2.2.1 10 i0 ((0 : Int32)).toNatClampNeg) (by have := hX.at3 (i := i0) (p := ((0 : Int32)).toNatClampNeg) ni0 (cl_lt (n := 3) (by assumption)); omega)) (fun p => a3 (X.2.2.1 10 i0 ((0 : Int32)).toNatClampNeg) p (by have := hX.at3 (i := i0) (p := ((0 : Int32)).toNatClampNeg) ni0 (cl_lt (n := 3) (by assumption)); omega)) (fun p => a5 (X.2.2.1 10 i0 ((0 : Int32)).toNatClampNeg) p (by have := hX.at3 (i := i0) (p := ((0 : Int32)).toNatClampNeg) ni0 (cl_lt (n := 3) (by assumption)); omega))) (fun X20 v19 w104 => ?_)
      have hX20 : IV A B X20 := w104.1
      exact ok_some ⟨hX20, trivial⟩
    · unfold f_X2_keepCopy_J41
      refine ok_gd ?_ (fun g105 => ?_)
      · have c106 : (0 : Int32) ≤ (X.1 9 i0 2) ∧ (X.1 9 i0 2) ≤ (3 : Int32) := hX.at1 9 i0 2
        exact vp_of (by decide) (by grind) (show v1 < (3 : Int32) by grind)
      have g105 := vp_to (by decide) g105
      have g105 : (0 : Int32) ≤ v1 ∧ v1 < (3 : Int32) := g105
      refine ok_gd ?_ (fun g107 => ?_)
      · exact (hX.at3 ni0 (cl_lt (n := 3) (by assumption))).2
      have pf108 : FU v1 2 1000 := by
        have c109 : (0 : Int32) ≤ (X.1 9 i0 2) ∧ (X.1 9 i0 2) ≤ (3 : Int32) := hX.at1 9 i0 2
        exact FU.start (by grind) (by decide)
      have pf110 : (0 : Int32) ≤ v1 ∧ v1 ≤ (2 : Int32) := by
        have c111 : (0 : Int32) ≤ (X.1 9 i0 2) ∧ (X.1 9 i0 2) ≤ (3 : Int32) := hX.at1 9 i0 2
        exact ⟨by grind, by grind⟩
      have pf112 : (1 : Int32) ≤ (X.1 9 i0 2) := by
        have c113 : (0 : Int32) ≤ (X.1 9 i0 2) ∧ (X.1 9 i0 2) ≤ (3 : Int32) := hX.at1 9 i0 2
        grind
      refine s_X2_keepCopy_L52 i0 ni0 (fun p => a2 p) (fun p => a4 p) 1000 v1 X _ pf108 pf110 hX pf112 (fun X11 hX11 ek => ?_)
      have eq_114 : (1 : Int32) ≤ (X11.1 9 i0 2) := ek
      refine ok_lq (fun v14 eq_115 => ?_)
      refine ok_gd ?_ (fun g116 => ?_)
      · have c117 : (0 : Int32) ≤ (X11.1 9 i0 2) ∧ (X11.1 9 i0 2) ≤ (3 : Int32) := hX11.at1 9 i0 2
        have c118 : (0 : Int32) ≤ (X.1 9 i0 2) ∧ (X.1 9 i0 2) ≤ (3 : Int32) := hX.at1 9 i0 2
        exact vp_of (by decide) (by grind) (show v14 < (3 : Int32) by grind)
      have g116 := vp_to (by decide) g116
      have g116 : (0 : Int32) ≤ v14 ∧ v14 < (3 : Int32) := g116
      refine ok_lq (fun X16 eq_119 => ?_)
      have hX16 : IV A B X16 := by rw [eq_119]; exact hX11.w3 (a4 ((v14).toNatClampNeg)) (hX.at3 ni0 (cl_lt (n := 3) (by assumption)))
      refine ok_gd ?_ (fun g120 => ?_)
      · have c121 : (0 : Int32) ≤ (X11.1 9 i0 2) ∧ (X11.1 9 i0 2) ≤ (3 : Int32) := hX11.at1 9 i0 2
        have c122 : (0 : Int32) ≤ (X.1 9 i0 2) ∧ (X.1 9 i0 2) ≤ (3 : Int32) := hX.at1 9 i0 2
        exact vp_of (by decide) (by grind) (show v14 < (3 : Int32) by grind)
      have g120 := vp_to (by decide) g120
      have g120 : (0 : Int32) ≤ v14 ∧ v14 < (3 : Int32) := g120
      refine ok_lq (fun X18 eq_123 => ?_)
      have hX18 : IV A B X18 := by rw [eq_123]; exact hX16.w1f rfl (a2 ((v14).toNatClampNeg)) rfl
      refine ok_b1 (s_X3_take X18 hX18 (X.2.2.1 10 i0 (v1).toNatClampNeg) i2 (a1 (X.2.2.1 10 i0 (v1).toNatClampNeg) (by have := hX.at3 (i := i0) (p := (v1).toNatClampNeg) ni0 (cl_lt (n := 3) (by assumption)); omega)) (fun p => a3 (X.2.2.1 10 i0 (v1).toNatClampNeg) p (by have := hX.at3 (i := i0) (p := (v1).toNatClampNeg) ni0 (cl_lt (n := 3) (by assumption)); omega)) (fun p => a5 (X.2.2.1 10 i0 (v1).toNatClampNeg) p (by have := hX.at3 (i := i0) (p := (v1).toNatClampNeg) ni0 (cl_lt (n := 3) (by assumption)); omega))) (fun X20 v19 w124 => ?_)
      have hX20 : IV A B X20 := w124.1
      exact ok_some ⟨hX20, trivial⟩