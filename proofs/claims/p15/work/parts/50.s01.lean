theorem s_X1_pairBrackets_L4 {A : Nat → Nat → Nat → Prop} {B : SS} (i1 : Nat) (i0 : Nat) (a1 : ∀ p, A 19 i0 p) (a2 : ∀ p, A 20 i0 p) : ∀ (n : Nat), ∀ (v3 : Int32) (v4 : Int32) (X5 : SS) (k1 : (SS → Option (SS × Unit))), (FU v3 24 n) → ((0 : Int32) ≤ v3 ∧ v3 ≤ (24 : Int32)) → ((0 : Int32) ≤ v4 ∧ v4 ≤ (24 : Int32)) → (IV A B X5) → (v4 ≤ v3) → (∀ (k_0 : SS), (IV A B k_0) → ok (k1 k_0) (fun r => IV A B r.1 ∧ True)) → ok (f_X1_pairBrackets_L4 i1 i0 n v3 v4 X5 k1) (fun r => IV A B r.1 ∧ True) := by
  intro n
  induction n with
  | zero =>
    intro v3 v4 X5 k1 hF iv3 iv4 hX5 x0 hk
    exact (FU.stop hF (show v3 ≤ (24 : Int32) by grind)).elim
  | succ n ih =>
    intro v3 v4 X5 k1 hF iv3 iv4 hX5 x0 hk
    rw [f_X1_pairBrackets_L4]
    refine ok_ite (fun q1 => ?_) (fun q1 => ?_)
    · exact hk X5 hX5
    · refine ok_gd ?_ (fun g2 => ?_)
      · have c3 : (0 : Int32) ≤ (X5.1 1 i1 2) ∧ (X5.1 1 i1 2) ≤ (24 : Int32) := hX5.at1 1 i1 2
        exact vp_of (by decide) (by grind) (show v3 < (24 : Int32) by grind)
      have g2 := vp_to (by decide) g2
      have g2 : (0 : Int32) ≤ v3 ∧ v3 < (24 : Int32) := g2
      refine ok_lq (fun X8 e4 => ?_)
      have p5 : (0 : Int32) ≤ v3 ∧ v3 ≤ (23 : Int32) := by
        have c6 : (0 : Int32) ≤ (X5.1 1 i1 2) ∧ (X5.1 1 i1 2) ≤ (24 : Int32) := hX5.at1 1 i1 2
        exact ⟨by grind, by grind⟩
      have hX8 : IV A B X8 := by rw [e4]; exact hX5.u1 rfl (a1 ((v3).toNatClampNeg)) p5
      refine ok_gd ?_ (fun g7 => ?_)
      · have c8 : (0 : Int32) ≤ (X5.1 1 i1 2) ∧ (X5.1 1 i1 2) ≤ (24 : Int32) := hX5.at1 1 i1 2
        exact vp_of (by decide) (by grind) (show v3 < (24 : Int32) by grind)
      have g7 := vp_to (by decide) g7
      have g7 : (0 : Int32) ≤ v3 ∧ v3 < (24 : Int32) := g7
      refine ok_ite (fun q9 => ?_) (fun q9 => ?_)
      · refine ok_gd ?_ (fun g10 => ?_)
        · exact vp_of (by decide) (by grind) (show v4 < (24 : Int32) by grind)
        have g10 := vp_to (by decide) g10
        have g10 : (0 : Int32) ≤ v4 ∧ v4 < (24 : Int32) := g10
        refine ok_lq (fun X21 e11 => ?_)
        have p12 : (0 : Int32) ≤ v3 ∧ v3 ≤ (23 : Int32) := by
          have c13 : (0 : Int32) ≤ (X5.1 1 i1 2) ∧ (X5.1 1 i1 2) ≤ (24 : Int32) := hX5.at1 1 i1 2
          have c14 : (0 : Int32) ≤ (X8.1 2 i1 (v3).toNatClampNeg) ∧ (X8.1 2 i1 (v3).toNatClampNeg) ≤ (65535 : Int32) := hX8.at1 2 i1 ((v3).toNatClampNeg)
          have c15 : (X8.1 2 i1 (v3).toNatClampNeg) = (X5.1 2 i1 (v3).toNatClampNeg) := by rw [e4]; exact up_k (by decide)
          have c16 : (0 : Int32) ≤ (X5.1 2 i1 (v3).toNatClampNeg) ∧ (X5.1 2 i1 (v3).toNatClampNeg) ≤ (65535 : Int32) := hX5.at1 2 i1 ((v3).toNatClampNeg)
          exact ⟨by grind, by grind⟩
        have hX21 : IV A B X21 := by rw [e11]; exact hX8.u1 rfl (a2 ((v4).toNatClampNeg)) p12
        have p17 : FU (v3 + (1 : Int32)) 24 _ := by
          have c18 : (0 : Int32) ≤ (X5.1 1 i1 2) ∧ (X5.1 1 i1 2) ≤ (24 : Int32) := hX5.at1 1 i1 2
          have c19 : (0 : Int32) ≤ (X8.1 2 i1 (v3).toNatClampNeg) ∧ (X8.1 2 i1 (v3).toNatClampNeg) ≤ (65535 : Int32) := hX8.at1 2 i1 ((v3).toNatClampNeg)
          have c20 : (X8.1 2 i1 (v3).toNatClampNeg) = (X5.1 2 i1 (v3).toNatClampNeg) := by rw [e4]; exact up_k (by decide)
          have c21 : (0 : Int32) ≤ (X5.1 2 i1 (v3).toNatClampNeg) ∧ (X5.1 2 i1 (v3).toNatClampNeg) ≤ (65535 : Int32) := hX5.at1 2 i1 ((v3).toNatClampNeg)
          exact FU.step hF (by grind)
        have p22 : (0 : Int32) ≤ (v3 + (1 : Int32)) ∧ (v3 + (1 : Int32)) ≤ (24 : Int32) := by
          have c23 : (0 : Int32) ≤ (X5.1 1 i1 2) ∧ (X5.1 1 i1 2) ≤ (24 : Int32) := hX5.at1 1 i1 2
          have c24 : (0 : Int32) ≤ (X8.1 2 i1 (v3).toNatClampNeg) ∧ (X8.1 2 i1 (v3).toNatClampNeg) ≤ (65535 : Int32) := hX8.at1 2 i1 ((v3).toNatClampNeg)
          have c25 : (X8.1 2 i1 (v3).toNatClampNeg) = (X5.1 2 i1 (v3).toNatClampNeg) := by rw [e4]; exact up_k (by decide)
          have c26 : (0 : Int32) ≤ (X5.1 2 i1 (v3).toNatClampNeg) ∧ (X5.1 2 i1 (v3).toNatClampNeg) ≤ (65535 : Int32) := hX5.at1 2 i1 ((v3).toNatClampNeg)
          exact ⟨by grind, by grind⟩
        have p27 : (0 : Int32) ≤ (v4 + (1 : Int32)) ∧ (v4 + (1 : Int32)) ≤ (24 : Int32) := by
          exact ⟨by grind, by grind⟩
        have p28 : (v4 + (1 : Int32)) ≤ (v3 + (1 : Int32)) := by
          have c29 : (0 : Int32) ≤ (X5.1 1 i1 2) ∧ (X5.1 1 i1 2) ≤ (24 : Int32) := hX5.at1 1 i1 2
          have c30 : (0 : Int32) ≤ (X8.1 2 i1 (v3).toNatClampNeg) ∧ (X8.1 2 i1 (v3).toNatClampNeg) ≤ (65535 : Int32) := hX8.at1 2 i1 ((v3).toNatClampNeg)
          have c31 : (X8.1 2 i1 (v3).toNatClampNeg) = (X5.1 2 i1 (v3).toNatClampNeg) := by rw [e4]; exact up_k (by decide)
          have c32 : (0 : Int32) ≤ (X5.1 2 i1 (v3).toNatClampNeg) ∧ (X5.1 2 i1 (v3).toNatClampNeg) ≤ (65535 : Int32) := hX5.at1 2 i1 ((v3).toNatClampNeg)
          grind
        exact ih (v3 + (1 : Int32)) (v4 + (1 : Int32)) X21 k1 p17 p22 p27 hX21 p28 hk
      · refine ok_gd ?_ (fun g33 => ?_)
        · have c34 : (0 : Int32) ≤ (X5.1 1 i1 2) ∧ (X5.1 1 i1 2) ≤ (24 : Int32) := hX5.at1 1 i1 2
          have c35 : (0 : Int32) ≤ (X8.1 2 i1 (v3).toNatClampNeg) ∧ (X8.1 2 i1 (v3).toNatClampNeg) ≤ (65535 : Int32) := hX8.at1 2 i1 ((v3).toNatClampNeg)
          have c36 : (X8.1 2 i1 (v3).toNatClampNeg) = (X5.1 2 i1 (v3).toNatClampNeg) := by rw [e4]; exact up_k (by decide)
          have c37 : (0 : Int32) ≤ (X5.1 2 i1 (v3).toNatClampNeg) ∧ (X5.1 2 i1 (v3).toNatClampNeg) ≤ (65535 : Int32) := hX5.at1 2 i1 ((v3).toNatClampNeg)
          exact vp_of (by decide) (by grind) (show v3 < (24 : Int32) by grind)
        have g33 := vp_to (by decide) g33
        have g33 : (0 : Int32) ≤ v3 ∧ v3 < (24 : Int32) := g33
        refine ok_ite (fun q38 => ?_) (fun q38 => ?_)
        · refine ok_ite (fun q39 => ?_) (fun q39 => ?_)
          · have p40 : FU (v3 + (1 : Int32)) 24 _ := by
              have c41 : (0 : Int32) ≤ (X5.1 1 i1 2) ∧ (X5.1 1 i1 2) ≤ (24 : Int32) := hX5.at1 1 i1 2
              have c42 : (0 : Int32) ≤ (X8.1 2 i1 (v3).toNatClampNeg) ∧ (X8.1 2 i1 (v3).toNatClampNeg) ≤ (65535 : Int32) := hX8.at1 2 i1 ((v3).toNatClampNeg)
              have c43 : (X8.1 2 i1 (v3).toNatClampNeg) = (X5.1 2 i1 (v3).toNatClampNeg) := by rw [e4]; exact up_k (by decide)
              have c44 : (0 : Int32) ≤ (X5.1 2 i1 (v3).toNatClampNeg) ∧ (X5.1 2 i1 (v3).toNatClampNeg) ≤ (65535 : Int32) := hX5.at1 2 i1 ((v3).toNatClampNeg)
              exact FU.step hF (by grind)
            have p45 : (0 : Int32) ≤ (v3 + (1 : Int32)) ∧ (v3 + (1 : Int32)) ≤ (24 : Int32) := by
              have c46 : (0 : Int32) ≤ (X5.1 1 i1 2) ∧ (X5.1 1 i1 2) ≤ (24 : Int32) := hX5.at1 1 i1 2
              have c47 : (0 : Int32) ≤ (X8.1 2 i1 (v3).toNatClampNeg) ∧ (X8.1 2 i1 (v3).toNatClampNeg) ≤ (65535 : Int32) := hX8.at1 2 i1 ((v3).toNatClampNeg)
              have c48 : (X8.1 2 i1 (v3).toNatClampNeg) = (X5.1 2 i1 (v3).toNatClampNeg) := by rw [e4]; exact up_k (by decide)
              have c49 : (0 : Int32) ≤ (X5.1 2 i1 (v3).toNatClampNeg) ∧ (X5.1 2 i1 (v3).toNatClampNeg) ≤ (65535 : Int32) := hX5.at1 2 i1 ((v3).toNatClampNeg)
              exact ⟨by grind, by grind⟩
            have p50 : (0 : Int32) ≤ v4 ∧ v4 ≤ (24 : Int32) := by
              exact ⟨by grind, by grind⟩
            have p51 : v4 ≤ (v3 + (1 : Int32)) := by
              have c52 : (0 : Int32) ≤ (X5.1 1 i1 2) ∧ (X5.1 1 i1 2) ≤ (24 : Int32) := hX5.at1 1 i1 2
              have c53 : (0 : Int32) ≤ (X8.1 2 i1 (v3).toNatClampNeg) ∧ (X8.1 2 i1 (v3).toNatClampNeg) ≤ (65535 : Int32) := hX8.at1 2 i1 ((v3).toNatClampNeg)
              have c54 : (X8.1 2 i1 (v3).toNatClampNeg) = (X5.1 2 i1 (v3).toNatClampNeg) := by rw [e4]; exact up_k (by decide)
              have c55 : (0 : Int32) ≤ (X5.1 2 i1 (v3).toNatClampNeg) ∧ (X5.1 2 i1 (v3).toNatClampNeg) ≤ (65535 : Int32) := hX5.at1 2 i1 ((v3).toNatClampNeg)
              grind
            exact ih (v3 + (1 : Int32)) v4 X8 k1 p40 p45 p50 hX8 p51 hk
          · refine ok_gd ?_ (fun g56 => ?_)
            · exact vp_of (by decide) (by grind) (show (v4 + ((-1) : Int32)) < (24 : Int32) by grind)
            have g56 := vp_to (by decide) g56
            have g56 : (0 : Int32) ≤ (v4 + ((-1) : Int32)) ∧ (v4 + ((-1) : Int32)) < (24 : Int32) := g56
            refine ok_gd ?_ (fun g57 => ?_)
            · have c58 : (0 : Int32) ≤ (X5.1 1 i1 2) ∧ (X5.1 1 i1 2) ≤ (24 : Int32) := hX5.at1 1 i1 2
              have c59 : (0 : Int32) ≤ (X8.1 2 i1 (v3).toNatClampNeg) ∧ (X8.1 2 i1 (v3).toNatClampNeg) ≤ (65535 : Int32) := hX8.at1 2 i1 ((v3).toNatClampNeg)
              have c60 : (X8.1 2 i1 (v3).toNatClampNeg) = (X5.1 2 i1 (v3).toNatClampNeg) := by rw [e4]; exact up_k (by decide)
              have c61 : (0 : Int32) ≤ (X5.1 2 i1 (v3).toNatClampNeg) ∧ (X5.1 2 i1 (v3).toNatClampNeg) ≤ (65535 : Int32) := hX5.at1 2 i1 ((v3).toNatClampNeg)
              exact vp_of (by decide) (by grind) (show v3 < (24 : Int32) by grind)
            have g57 := vp_to (by decide) g57
            have g57 : (0 : Int32) ≤ v3 ∧ v3 < (24 : Int32) := g57
            refine ok_lq (fun X16 e62 => ?_)
            have p63 : (0 : Int32) ≤ (X8.1 20 i0 ((v4 + ((-1) : Int32))).toNatClampNeg) ∧ (X8.1 20 i0 ((v4 + ((-1) : Int32))).toNatClampNeg) ≤ (23 : Int32) := by
              have c64 : (0 : Int32) ≤ (X8.1 20 i0 ((v4 + ((-1) : Int32))).toNatClampNeg) ∧ (X8.1 20 i0 ((v4 + ((-1) : Int32))).toNatClampNeg) ≤ (23 : Int32) := hX8.at1 20 i0 (((v4 + ((-1) : Int32))).toNatClampNeg)
              have c65 : (X8.1 20 i0 ((v4 + ((-1) : Int32))).toNatClampNeg) = (X5.1 20 i0 ((v4 + ((-1) : Int32))).toNatClampNeg) := by rw [e4]; exact up_k (by decide)
              have c66 : (0 : Int32) ≤ (X5.1 20 i0 ((v4 + ((-1) : Int32))).toNatClampNeg) ∧ (X5.1 20 i0 ((v4 + ((-1) : Int32))).toNatClampNeg) ≤ (23 : Int32) := hX5.at1 20 i0 (((v4 + ((-1) : Int32))).toNatClampNeg)
              exact ⟨by grind, by grind⟩
            have hX16 : IV A B X16 := by rw [e62]; exact hX8.u1 rfl (a1 ((v3).toNatClampNeg)) p63
            refine ok_gd ?_ (fun g67 => ?_)
            · exact vp_of (by decide) (by grind) (show (v4 + ((-1) : Int32)) < (24 : Int32) by grind)
            have g67 := vp_to (by decide) g67
            have g67 : (0 : Int32) ≤ (v4 + ((-1) : Int32)) ∧ (v4 + ((-1) : Int32)) < (24 : Int32) := g67
            refine ok_gd ?_ (fun g68 => ?_)
            · have c69 : (0 : Int32) ≤ (X16.1 20 i0 ((v4 + ((-1) : Int32))).toNatClampNeg) ∧ (X16.1 20 i0 ((v4 + ((-1) : Int32))).toNatClampNeg) ≤ (23 : Int32) := hX16.at1 20 i0 (((v4 + ((-1) : Int32))).toNatClampNeg)
              have c70 : (X16.1 20 i0 ((v4 + ((-1) : Int32))).toNatClampNeg) = (X8.1 20 i0 ((v4 + ((-1) : Int32))).toNatClampNeg) := by rw [e62]; exact up_k (by decide)
              have c71 : (0 : Int32) ≤ (X8.1 20 i0 ((v4 + ((-1) : Int32))).toNatClampNeg) ∧ (X8.1 20 i0 ((v4 + ((-1) : Int32))).toNatClampNeg) ≤ (23 : Int32) := hX8.at1 20 i0 (((v4 + ((-1) : Int32))).toNatClampNeg)
              have c72 : (X8.1 20 i0 ((v4 + ((-1) : Int32))).toNatClampNeg) = (X5.1 20 i0 ((v4 + ((-1) : Int32))).toNatClampNeg) := by rw [e4]; exact up_k (by decide)
              have c73 : (0 : Int32) ≤ (X5.1 20 i0 ((v4 + ((-1) : Int32))).toNatClampNeg) ∧ (X5.1 20 i0 ((v4 + ((-1) : Int32))).toNatClampNeg) ≤ (23 : Int32) := hX5.at1 20 i0 (((v4 + ((-1) : Int32))).toNatClampNeg)
              exact vp_of (by decide) (by grind) (show (X16.1 20 i0 ((v4 + ((-1) : Int32))).toNatClampNeg) < (24 : Int32) by grind)
            have g68 := vp_to (by decide) g68
            have g68 : (0 : Int32) ≤ (X16.1 20 i0 ((v4 + ((-1) : Int32))).toNatClampNeg) ∧ (X16.1 20 i0 ((v4 + ((-1) : Int32))).toNatClampNeg) < (24 : Int32) := g68
            refine ok_lq (fun X19 e74 => ?_)
            have p75 : (0 : Int32) ≤ v3 ∧ v3 ≤ (23 : Int32) := by
              have c76 : (0 : Int32) ≤ (X5.1 1 i1 2) ∧ (X5.1 1 i1 2) ≤ (24 : Int32) := hX5.at1 1 i1 2
              have c77 : (0 : Int32) ≤ (X8.1 2 i1 (v3).toNatClampNeg) ∧ (X8.1 2 i1 (v3).toNatClampNeg) ≤ (65535 : Int32) := hX8.at1 2 i1 ((v3).toNatClampNeg)
              have c78 : (X8.1 2 i1 (v3).toNatClampNeg) = (X5.1 2 i1 (v3).toNatClampNeg) := by rw [e4]; exact up_k (by decide)
              have c79 : (0 : Int32) ≤ (X5.1 2 i1 (v3).toNatClampNeg) ∧ (X5.1 2 i1 (v3).toNatClampNeg) ≤ (65535 : Int32) := hX5.at1 2 i1 ((v3).toNatClampNeg)
              exact ⟨by grind, by grind⟩
            have hX19 : IV A B X19 := by rw [e74]; exact hX16.u1 rfl (a1 (((X16.1 20 i0 ((v4 + ((-1) : Int32))).toNatClampNeg)).toNatClampNeg)) p75
            have p80 : FU (v3 + (1 : Int32)) 24 _ := by
              have c81 : (0 : Int32) ≤ (X5.1 1 i1 2) ∧ (X5.1 1 i1 2) ≤ (24 : Int32) := hX5.at1 1 i1 2
              have c82 : (0 : Int32) ≤ (X8.1 2 i1 (v3).toNatClampNeg) ∧ (X8.1 2 i1 (v3).toNatClampNeg) ≤ (65535 : Int32) := hX8.at1 2 i1 ((v3).toNatClampNeg)
              have c83 : (X8.1 2 i1 (v3).toNatClampNeg) = (X5.1 2 i1 (v3).toNatClampNeg) := by rw [e4]; exact up_k (by decide)
              have c84 : (0 : Int32) ≤ (X5.1 2 i1 (v3).toNatClampNeg) ∧ (X5.1 2 i1 (v3).toNatClampNeg) ≤ (65535 : Int32) := hX5.at1 2 i1 ((v3).toNatClampNeg)
              exact FU.step hF (by grind)
            have p85 : (0 : Int32) ≤ (v3 + (1 : Int32)) ∧ (v3 + (1 : Int32)) ≤ (24 : Int32) := by
              have c86 : (0 : Int32) ≤ (X5.1 1 i1 2) ∧ (X5.1 1 i1 2) ≤ (24 : Int32) := hX5.at1 1 i1 2
              have c87 : (0 : Int32) ≤ (X8.1 2 i1 (v3).toNatClampNeg) ∧ (X8.1 2 i1 (v3).toNatClampNeg) ≤ (65535 : Int32) := hX8.at1 2 i1 ((v3).toNatClampNeg)
              have c88 : (X8.1 2 i1 (v3).toNatClampNeg) = (X5.1 2 i1 (v3).toNatClampNeg) := by rw [e4]; exact up_k (by decide)
              have c89 : (0 : Int32) ≤ (X5.1 2 i1 (v3).toNatClampNeg) ∧ (X5.1 2 i1 (v3).toNatClampNeg) ≤ (65535 : Int32) := hX5.at1 2 i1 ((v3).toNatClampNeg)
              exact ⟨by grind, by grind⟩
            have p90 : (0 : Int32) ≤ (v4 + ((-1) : Int32)) ∧ (v4 + ((-1) : Int32)) ≤ (24 : Int32) := by
              have c91 : (0 : Int32) ≤ (X16.1 20 i0 ((v4 + ((-1) : Int32))).toNatClampNeg) ∧ (X16.1 20 i0 ((v4 + ((-1) : Int32))).toNatClampNeg) ≤ (23 : Int32) := hX16.at1 20 i0 (((v4 + ((-1) : Int32))).toNatClampNeg)
              have c92 : (X16.1 20 i0 ((v4 + ((-1) : Int32))).toNatClampNeg) = (X8.1 20 i0 ((v4 + ((-1) : Int32))).toNatClampNeg) := by rw [e62]; exact up_k (by decide)
              have c93 : (0 : Int32) ≤ (X8.1 20 i0 ((v4 + ((-1) : Int32))).toNatClampNeg) ∧ (X8.1 20 i0 ((v4 + ((-1) : Int32))).toNatClampNeg) ≤ (23 : Int32) := hX8.at1 20 i0 (((v4 + ((-1) : Int32))).toNatClampNeg)
              have c94 : (X8.1 20 i0 ((v4 + ((-1) : Int32))).toNatClampNeg) = (X5.1 20 i0 ((v4 + ((-1) : Int32))).toNatClampNeg) := by rw [e4]; exact up_k (by decide)
              have c95 : (0 : Int32) ≤ (X5.1 20 i0 ((v4 + ((-1) : Int32))).toNatClampNeg) ∧ (X5.1 20 i0 ((v4 + ((-1) : Int32))).toNatClampNeg) ≤ (23 : Int32) := hX5.at1 20 i0 (((v4 + ((-1) : Int32))).toNatClampNeg)
              exact ⟨by grind, by grind⟩
            have p96 : (v4 + ((-1) : Int32)) ≤ (v3 + (1 : Int32)) := by
              have c97 : (0 : Int32) ≤ (X5.1 1 i1 2) ∧ (X5.1 1 i1 2) ≤ (24 : Int32) := hX5.at1 1 i1 2
              have c98 : (0 : Int32) ≤ (X8.1 2 i1 (v3).toNatClampNeg) ∧ (X8.1 2 i1 (v3).toNatClampNeg) ≤ (65535 : Int32) := hX8.at1 2 i1 ((v3).toNatClampNeg)
              have c99 : (X8.1 2 i1 (v3).toNatClampNeg) = (X5.1 2 i1 (v3).toNatClampNeg) := by rw [e4]; exact up_k (by decide)
              have c100 : (0 : Int32) ≤ (X16.1 20 i0 ((v4 + ((-1) : Int32))).toNatClampNeg) ∧ (X16.1 20 i0 ((v4 + ((-1) : Int32))).toNatClampNeg) ≤ (23 : Int32) := hX16.at1 20 i0 (((v4 + ((-1) : Int32))).toNatClampNeg)
              have c101 : (X16.1 20 i0 ((v4 + ((-1) : Int32))).toNatClampNeg) = (X8.1 20 i0 ((v4 + ((-1) : Int32))).toNatClampNeg) := by rw [e62]; exact up_k (by decide)
              have c102 : (0 : Int32) ≤ (X5.1 2 i1 (v3).toNatClampNeg) ∧ (X5.1 2 i1 (v3).toNatClampNeg) ≤ (65535 : Int32) := hX5.at1 2 i1 ((v3).toNatClampNeg)
              have c103 : (0 : Int32) ≤ (X8.1 20 i0 ((v4 + ((-1) : Int32))).toNatClampNeg) ∧ (X8.1 20 i0 ((v4 + ((-1) : Int32))).toNatClampNeg) ≤ (23 : Int32) := hX8.at1 20 i0 (((v4 + ((-1) : Int32))).toNatClampNeg)
              have c104 : (X8.1 20 i0 ((v4 + ((-1) : Int32))).toNatClampNeg) = (X5.1 20 i0 ((v4 + ((-1) : Int32))).toNatClampNeg) := by rw [e4]; exact up_k (by decide)
              have c105 : (0 : Int32) ≤ (X5.1 20 i0 ((v4 + ((-1) : Int32))).toNatClampNeg) ∧ (X5.1 20 i0 ((v4 + ((-1) : Int32))).toNatClampNeg) ≤ (23 : Int32) := hX5.at1 20 i0 (((v4 + ((-1) : Int32))).toNatClampNeg)
              grind
            exact ih (v3 + (1 : Int32)) (v4 + ((-1) : Int32)) X19 k1 p80 p85 p90 hX19 p96 hk
        · have p106 : FU (v3 + (1 : Int32)) 24 _ := by
            have c107 : (0 : Int32) ≤ (X5.1 1 i1 2) ∧ (X5.1 1 i1 2) ≤ (24 : Int32) := hX5.at1 1 i1 2
            have c108 : (0 : Int32) ≤ (X8.1 2 i1 (v3).toNatClampNeg) ∧ (X8.1 2 i1 (v3).toNatClampNeg) ≤ (65535 : Int32) := hX8.at1 2 i1 ((v3).toNatClampNeg)
            have c109 : (X8.1 2 i1 (v3).toNatClampNeg) = (X5.1 2 i1 (v3).toNatClampNeg) := by rw [e4]; exact up_k (by decide)
            have c110 : (0 : Int32) ≤ (X5.1 2 i1 (v3).toNatClampNeg) ∧ (X5.1 2 i1 (v3).toNatClampNeg) ≤ (65535 : Int32) := hX5.at1 2 i1 ((v3).toNatClampNeg)
            exact FU.step hF (by grind)
          have p111 : (0 : Int32) ≤ (v3 + (1 : Int32)) ∧ (v3 + (1 : Int32)) ≤ (24 : Int32) := by
            have c112 : (0 : Int32) ≤ (X5.1 1 i1 2) ∧ (X5.1 1 i1 2) ≤ (24 : Int32) := hX5.at1 1 i1 2
            have c113 : (0 : Int32) ≤ (X8.1 2 i1 (v3).toNatClampNeg) ∧ (X8.1 2 i1 (v3).toNatClampNeg) ≤ (65535 : Int32) := hX8.at1 2 i1 ((v3).toNatClampNeg)
            have c114 : (X8.1 2 i1 (v3).toNatClampNeg) = (X5.1 2 i1 (v3).toNatClampNeg) := by rw [e4]; exact up_k (by decide)
            have c115 : (0 : Int32) ≤ (X5.1 2 i1 (v3).toNatClampNeg) ∧ (X5.1 2 i1 (v3).toNatClampNeg) ≤ (65535 : Int32) := hX5.at1 2 i1 ((v3).toNatClampNeg)
            exact ⟨by grind, by grind⟩
          have p116 : (0 : Int32) ≤ v4 ∧ v4 ≤ (24 : Int32) := by
            exact ⟨by grind, by grind⟩
          have p117 : v4 ≤ (v3 + (1 : Int32)) := by
            have c118 : (0 : Int32) ≤ (X5.1 1 i1 2) ∧ (X5.1 1 i1 2) ≤ (24 : Int32) := hX5.at1 1 i1 2
            have c119 : (0 : Int32) ≤ (X8.1 2 i1 (v3).toNatClampNeg) ∧ (X8.1 2 i1 (v3).toNatClampNeg) ≤ (65535 : Int32) := hX8.at1 2 i1 ((v3).toNatClampNeg)
            have c120 : (X8.1 2 i1 (v3).toNatClampNeg) = (X5.1 2 i1 (v3).toNatClampNeg) := by rw [e4]; exact up_k (by decide)
            have c121 : (0 : Int32) ≤ (X5.1 2 i1 (v3).toNatClampNeg) ∧ (X5.1 2 i1 (v3).toNatClampNeg) ≤ (65535 : Int32) := hX5.at1 2 i1 ((v3).toNatClampNeg)
            grind
          exact ih (v3 + (1 : Int32)) v4 X8 k1 p106 p111 p116 hX8 p117 hk
theorem s_X1_pairBrackets {A : Nat → Nat → Nat → Prop} {B : SS} (X : SS) (hX : IV A B X) (i0 : Nat) (i1 : Nat) (a1 : ∀ p, A 19 i0 p) (a2 : ∀ p, A 20 i0 p) : ok (f_X1_pairBrackets X i0 i1) (fun r => IV A B r.1 ∧ True) := by
  unfold f_X1_pairBrackets
  have p1 : FU (0 : Int32) 24 1000 := by
    exact FU.start (by grind) (by decide)
  have p2 : (0 : Int32) ≤ (0 : Int32) := by
    grind
  refine s_X1_pairBrackets_L4 i1 i0 (fun p => a1 p) (fun p => a2 p) 1000 (0 : Int32) (0 : Int32) X _ p1 ⟨by decide, by decide⟩ ⟨by decide, by decide⟩ hX p2 (fun X2 hX2 => ?_)
  exact ok_some ⟨hX2, trivial⟩
theorem s_X1_neededBy (p0 : Int32) (ip0 : (0 : Int32) ≤ p0 ∧ p0 ≤ (65535 : Int32)) : ok (f_X1_neededBy p0) (fun r => (0 : Int32) ≤ r ∧ r ≤ (2 : Int32)) := by
  unfold f_X1_neededBy
  refine ok_ite (fun q1 => ?_) (fun q1 => ?_)
  · have p2 : (0 : Int32) ≤ (1 : Int32) ∧ (1 : Int32) ≤ (2 : Int32) := by
      exact ⟨by grind, by grind⟩
    exact ok_some p2
  · refine ok_ite (fun q3 => ?_) (fun q3 => ?_)
    · have p4 : (0 : Int32) ≤ (1 : Int32) ∧ (1 : Int32) ≤ (2 : Int32) := by
        exact ⟨by grind, by grind⟩
      exact ok_some p4
    · refine ok_ite (fun q5 => ?_) (fun q5 => ?_)
      · have p6 : (0 : Int32) ≤ (1 : Int32) ∧ (1 : Int32) ≤ (2 : Int32) := by
          exact ⟨by grind, by grind⟩
        exact ok_some p6
      · refine ok_ite (fun q7 => ?_) (fun q7 => ?_)
        · have p8 : (0 : Int32) ≤ (0 : Int32) ∧ (0 : Int32) ≤ (2 : Int32) := by
            exact ⟨by grind, by grind⟩
          exact ok_some p8
        · refine ok_ite (fun q9 => ?_) (fun q9 => ?_)
          · have p10 : (0 : Int32) ≤ (0 : Int32) ∧ (0 : Int32) ≤ (2 : Int32) := by
              exact ⟨by grind, by grind⟩
            exact ok_some p10
          · refine ok_ite (fun q11 => ?_) (fun q11 => ?_)
            · have p12 : (0 : Int32) ≤ (1 : Int32) ∧ (1 : Int32) ≤ (2 : Int32) := by
                exact ⟨by grind, by grind⟩
              exact ok_some p12
            · refine ok_ite (fun q13 => ?_) (fun q13 => ?_)
              · have p14 : (0 : Int32) ≤ (1 : Int32) ∧ (1 : Int32) ≤ (2 : Int32) := by
                  exact ⟨by grind, by grind⟩
                exact ok_some p14
              · have p15 : (0 : Int32) ≤ (2 : Int32) ∧ (2 : Int32) ≤ (2 : Int32) := by
                  exact ⟨by grind, by grind⟩
                exact ok_some p15
theorem s_X1_numberUnder {A : Nat → Nat → Nat → Prop} {B : SS} (X : SS) (hX : IV A B X) (i0 : Nat) (p0 : Int32) (ip0 : (0 : Int32) ≤ p0 ∧ p0 ≤ (1 : Int32)) : ok (f_X1_numberUnder X i0 p0) (fun r => True) := by
  unfold f_X1_numberUnder
  refine ok_lq (fun v1 e1 => ?_)
  refine ok_ite (fun q2 => ?_) (fun q2 => ?_)
  · exact ok_some trivial
  · refine ok_ite (fun q3 => ?_) (fun q3 => ?_)
    · exact ok_some trivial
    · refine ok_gd ?_ (fun g4 => ?_)
      · have c5 : (0 : Int32) ≤ (X.1 16 i0 4) ∧ (X.1 16 i0 4) ≤ (12 : Int32) := hX.at1 16 i0 4
        exact vp_of (by decide) (by grind) (show v1 < (12 : Int32) by grind)
      have g4 := vp_to (by decide) g4
      have g4 : (0 : Int32) ≤ v1 ∧ v1 < (12 : Int32) := g4
      exact ok_some trivial
theorem s_X1_errorOf {A : Nat → Nat → Nat → Prop} {B : SS} (X : SS) (hX : IV A B X) (i0 : Nat) (p0 : Int32) (ip0 : (0 : Int32) ≤ p0 ∧ p0 ≤ (65535 : Int32)) (i2 : Nat) : ok (f_X1_errorOf X i0 p0 i2) (fun r => (32 : Int32) ≤ r ∧ r ≤ (122 : Int32)) := by
  unfold f_X1_errorOf
  refine ok_ite (fun q1 => ?_) (fun q1 => ?_)
  · have p2 : (0 : Int32) ≤ p0 ∧ p0 ≤ (65535 : Int32) := by
      exact ⟨by grind, by grind⟩
    refine ok_b0 (s_X1_neededBy p0 p2) (fun v2 w3 => ?_)
    have w4 : (0 : Int32) ≤ v2 ∧ v2 ≤ (2 : Int32) := w3
    refine ok_ite (fun q5 => ?_) (fun q5 => ?_)
    · refine ok_ite (fun q6 => ?_) (fun q6 => ?_)
      · refine ok_ite (fun q7 => ?_) (fun q7 => ?_)
        · unfold f_X1_errorOf_J47
          refine ok_ite (fun q8 => ?_) (fun q8 => ?_)
          · refine ok_b0 (s_X1_numberUnder X hX i0 (0 : Int32) ⟨by decide, by decide⟩) (fun v19 w9 => ?_)
            refine ok_ite (fun q10 => ?_) (fun q10 => ?_)
            · have p11 : (32 : Int32) ≤ (122 : Int32) ∧ (122 : Int32) ≤ (122 : Int32) := by
                exact ⟨by grind, by grind⟩
              exact ok_some p11
            · unfold f_X1_errorOf_J64
              refine ok_ite (fun q12 => ?_) (fun q12 => ?_)
              · unfold f_X1_errorOf_J82
                unfold f_X1_errorOf_J87
                refine ok_ite (fun q13 => ?_) (fun q13 => ?_)
                · unfold f_X1_errorOf_J104
                  refine ok_ite (fun q14 => ?_) (fun q14 => ?_)
                  · refine ok_ite (fun q15 => ?_) (fun q15 => ?_)
                    · have p16 : (32 : Int32) ≤ (32 : Int32) ∧ (32 : Int32) ≤ (122 : Int32) := by
                        exact ⟨by grind, by grind⟩
                      exact ok_some p16
                    · have p17 : (32 : Int32) ≤ (108 : Int32) ∧ (108 : Int32) ≤ (122 : Int32) := by
                        exact ⟨by grind, by grind⟩
                      exact ok_some p17
                  · have p18 : (32 : Int32) ≤ (32 : Int32) ∧ (32 : Int32) ≤ (122 : Int32) := by
                      exact ⟨by grind, by grind⟩
                    exact ok_some p18
                · refine ok_ite (fun q19 => ?_) (fun q19 => ?_)
                  · unfold f_X1_errorOf_J104
                    refine ok_ite (fun q20 => ?_) (fun q20 => ?_)
                    · refine ok_ite (fun q21 => ?_) (fun q21 => ?_)
                      · have p22 : (32 : Int32) ≤ (32 : Int32) ∧ (32 : Int32) ≤ (122 : Int32) := by
                          exact ⟨by grind, by grind⟩
                        exact ok_some p22
                      · have p23 : (32 : Int32) ≤ (108 : Int32) ∧ (108 : Int32) ≤ (122 : Int32) := by
                          exact ⟨by grind, by grind⟩
                        exact ok_some p23
                    · have p24 : (32 : Int32) ≤ (32 : Int32) ∧ (32 : Int32) ≤ (122 : Int32) := by
                        exact ⟨by grind, by grind⟩
                      exact ok_some p24
                  · have p25 : (32 : Int32) ≤ (118 : Int32) ∧ (118 : Int32) ≤ (122 : Int32) := by
                      exact ⟨by grind, by grind⟩
                    exact ok_some p25
              · refine ok_ite (fun q26 => ?_) (fun q26 => ?_)
                · unfold f_X1_errorOf_J82
                  unfold f_X1_errorOf_J87
                  refine ok_ite (fun q27 => ?_) (fun q27 => ?_)
                  · unfold f_X1_errorOf_J104
                    refine ok_ite (fun q28 => ?_) (fun q28 => ?_)
                    · refine ok_ite (fun q29 => ?_) (fun q29 => ?_)
                      · have p30 : (32 : Int32) ≤ (32 : Int32) ∧ (32 : Int32) ≤ (122 : Int32) := by
                          exact ⟨by grind, by grind⟩
                        exact ok_some p30
                      · have p31 : (32 : Int32) ≤ (108 : Int32) ∧ (108 : Int32) ≤ (122 : Int32) := by
                          exact ⟨by grind, by grind⟩
                        exact ok_some p31
                    · have p32 : (32 : Int32) ≤ (32 : Int32) ∧ (32 : Int32) ≤ (122 : Int32) := by
                        exact ⟨by grind, by grind⟩
                      exact ok_some p32
                  · refine ok_ite (fun q33 => ?_) (fun q33 => ?_)
                    · unfold f_X1_errorOf_J104
                      refine ok_ite (fun q34 => ?_) (fun q34 => ?_)
                      · refine ok_ite (fun q35 => ?_) (fun q35 => ?_)
                        · have p36 : (32 : Int32) ≤ (32 : Int32) ∧ (32 : Int32) ≤ (122 : Int32) := by
                            exact ⟨by grind, by grind⟩
                          exact ok_some p36
                        · have p37 : (32 : Int32) ≤ (108 : Int32) ∧ (108 : Int32) ≤ (122 : Int32) := by
                            exact ⟨by grind, by grind⟩
                          exact ok_some p37
                      · have p38 : (32 : Int32) ≤ (32 : Int32) ∧ (32 : Int32) ≤ (122 : Int32) := by
                          exact ⟨by grind, by grind⟩
                        exact ok_some p38
                    · have p39 : (32 : Int32) ≤ (118 : Int32) ∧ (118 : Int32) ≤ (122 : Int32) := by
                        exact ⟨by grind, by grind⟩
                      exact ok_some p39
                · refine ok_ite (fun q40 => ?_) (fun q40 => ?_)
                  · unfold f_X1_errorOf_J82
                    unfold f_X1_errorOf_J87
                    refine ok_ite (fun q41 => ?_) (fun q41 => ?_)
                    · unfold f_X1_errorOf_J104
                      refine ok_ite (fun q42 => ?_) (fun q42 => ?_)
                      · refine ok_ite (fun q43 => ?_) (fun q43 => ?_)
                        · have p44 : (32 : Int32) ≤ (32 : Int32) ∧ (32 : Int32) ≤ (122 : Int32) := by
                            exact ⟨by grind, by grind⟩
                          exact ok_some p44
                        · have p45 : (32 : Int32) ≤ (108 : Int32) ∧ (108 : Int32) ≤ (122 : Int32) := by
                            exact ⟨by grind, by grind⟩
                          exact ok_some p45
                      · have p46 : (32 : Int32) ≤ (32 : Int32) ∧ (32 : Int32) ≤ (122 : Int32) := by
                          exact ⟨by grind, by grind⟩
                        exact ok_some p46
                    · refine ok_ite (fun q47 => ?_) (fun q47 => ?_)
                      · unfold f_X1_errorOf_J104
                        refine ok_ite (fun q48 => ?_) (fun q48 => ?_)
                        · refine ok_ite (fun q49 => ?_) (fun q49 => ?_)
                          · have p50 : (32 : Int32) ≤ (32 : Int32) ∧ (32 : Int32) ≤ (122 : Int32) := by
                              exact ⟨by grind, by grind⟩
                            exact ok_some p50
                          · have p51 : (32 : Int32) ≤ (108 : Int32) ∧ (108 : Int32) ≤ (122 : Int32) := by
                              exact ⟨by grind, by grind⟩
                            exact ok_some p51
                        · have p52 : (32 : Int32) ≤ (32 : Int32) ∧ (32 : Int32) ≤ (122 : Int32) := by
                            exact ⟨by grind, by grind⟩
                          exact ok_some p52
                      · have p53 : (32 : Int32) ≤ (118 : Int32) ∧ (118 : Int32) ≤ (122 : Int32) := by
                          exact ⟨by grind, by grind⟩
                        exact ok_some p53
                  · unfold f_X1_errorOf_J87
                    refine ok_ite (fun q54 => ?_) (fun q54 => ?_)
                    · unfold f_X1_errorOf_J104
                      refine ok_ite (fun q55 => ?_) (fun q55 => ?_)
                      · refine ok_ite (fun q56 => ?_) (fun q56 => ?_)
                        · have p57 : (32 : Int32) ≤ (32 : Int32) ∧ (32 : Int32) ≤ (122 : Int32) := by
                            exact ⟨by grind, by grind⟩
                          exact ok_some p57
                        · have p58 : (32 : Int32) ≤ (108 : Int32) ∧ (108 : Int32) ≤ (122 : Int32) := by
                            exact ⟨by grind, by grind⟩
                          exact ok_some p58
                      · have p59 : (32 : Int32) ≤ (32 : Int32) ∧ (32 : Int32) ≤ (122 : Int32) := by
                          exact ⟨by grind, by grind⟩
                        exact ok_some p59
                    · refine ok_ite (fun q60 => ?_) (fun q60 => ?_)
                      · unfold f_X1_errorOf_J104
                        refine ok_ite (fun q61 => ?_) (fun q61 => ?_)
                        · refine ok_ite (fun q62 => ?_) (fun q62 => ?_)
                          · have p63 : (32 : Int32) ≤ (32 : Int32) ∧ (32 : Int32) ≤ (122 : Int32) := by
                              exact ⟨by grind, by grind⟩
                            exact ok_some p63
                          · have p64 : (32 : Int32) ≤ (108 : Int32) ∧ (108 : Int32) ≤ (122 : Int32) := by
                              exact ⟨by grind, by grind⟩
                            exact ok_some p64
                        · have p65 : (32 : Int32) ≤ (32 : Int32) ∧ (32 : Int32) ≤ (122 : Int32) := by
                            exact ⟨by grind, by grind⟩
                          exact ok_some p65
                      · have p66 : (32 : Int32) ≤ (118 : Int32) ∧ (118 : Int32) ≤ (122 : Int32) := by
                          exact ⟨by grind, by grind⟩
                        exact ok_some p66
          · unfold f_X1_errorOf_J64
            refine ok_ite (fun q67 => ?_) (fun q67 => ?_)
            · unfold f_X1_errorOf_J82
              unfold f_X1_errorOf_J87
              refine ok_ite (fun q68 => ?_) (fun q68 => ?_)
              · unfold f_X1_errorOf_J104
                refine ok_ite (fun q69 => ?_) (fun q69 => ?_)
                · refine ok_ite (fun q70 => ?_) (fun q70 => ?_)
                  · have p71 : (32 : Int32) ≤ (32 : Int32) ∧ (32 : Int32) ≤ (122 : Int32) := by
                      exact ⟨by grind, by grind⟩
                    exact ok_some p71
                  · have p72 : (32 : Int32) ≤ (108 : Int32) ∧ (108 : Int32) ≤ (122 : Int32) := by
                      exact ⟨by grind, by grind⟩
                    exact ok_some p72
                · have p73 : (32 : Int32) ≤ (32 : Int32) ∧ (32 : Int32) ≤ (122 : Int32) := by
                    exact ⟨by grind, by grind⟩
                  exact ok_some p73
              · refine ok_ite (fun q74 => ?_) (fun q74 => ?_)
                · unfold f_X1_errorOf_J104
                  refine ok_ite (fun q75 => ?_) (fun q75 => ?_)
                  · refine ok_ite (fun q76 => ?_) (fun q76 => ?_)
                    · have p77 : (32 : Int32) ≤ (32 : Int32) ∧ (32 : Int32) ≤ (122 : Int32) := by
                        exact ⟨by grind, by grind⟩
                      exact ok_some p77
                    · have p78 : (32 : Int32) ≤ (108 : Int32) ∧ (108 : Int32) ≤ (122 : Int32) := by
                        exact ⟨by grind, by grind⟩
                      exact ok_some p78
                  · have p79 : (32 : Int32) ≤ (32 : Int32) ∧ (32 : Int32) ≤ (122 : Int32) := by
                      exact ⟨by grind, by grind⟩
                    exact ok_some p79
                · have p80 : (32 : Int32) ≤ (118 : Int32) ∧ (118 : Int32) ≤ (122 : Int32) := by
                    exact ⟨by grind, by grind⟩
                  exact ok_some p80
            · refine ok_ite (fun q81 => ?_) (fun q81 => ?_)
              · unfold f_X1_errorOf_J82
                unfold f_X1_errorOf_J87
                refine ok_ite (fun q82 => ?_) (fun q82 => ?_)
                · unfold f_X1_errorOf_J104
                  refine ok_ite (fun q83 => ?_) (fun q83 => ?_)
                  · refine ok_ite (fun q84 => ?_) (fun q84 => ?_)
                    · have p85 : (32 : Int32) ≤ (32 : Int32) ∧ (32 : Int32) ≤ (122 : Int32) := by
                        exact ⟨by grind, by grind⟩
                      exact ok_some p85
                    · have p86 : (32 : Int32) ≤ (108 : Int32) ∧ (108 : Int32) ≤ (122 : Int32) := by
                        exact ⟨by grind, by grind⟩
                      exact ok_some p86
                  · have p87 : (32 : Int32) ≤ (32 : Int32) ∧ (32 : Int32) ≤ (122 : Int32) := by
                      exact ⟨by grind, by grind⟩
                    exact ok_some p87
                · refine ok_ite (fun q88 => ?_) (fun q88 => ?_)
                  · unfold f_X1_errorOf_J104
                    refine ok_ite (fun q89 => ?_) (fun q89 => ?_)
                    · refine ok_ite (fun q90 => ?_) (fun q90 => ?_)
                      · have p91 : (32 : Int32) ≤ (32 : Int32) ∧ (32 : Int32) ≤ (122 : Int32) := by
                          exact ⟨by grind, by grind⟩
                        exact ok_some p91
                      · have p92 : (32 : Int32) ≤ (108 : Int32) ∧ (108 : Int32) ≤ (122 : Int32) := by
                          exact ⟨by grind, by grind⟩
                        exact ok_some p92
                    · have p93 : (32 : Int32) ≤ (32 : Int32) ∧ (32 : Int32) ≤ (122 : Int32) := by
                        exact ⟨by grind, by grind⟩
                      exact ok_some p93
                  · have p94 : (32 : Int32) ≤ (118 : Int32) ∧ (118 : Int32) ≤ (122 : Int32) := by
                      exact ⟨by grind, by grind⟩
                    exact ok_some p94
              · refine ok_ite (fun q95 => ?_) (fun q95 => ?_)
                · unfold f_X1_errorOf_J82
                  unfold f_X1_errorOf_J87
                  refine ok_ite (fun q96 => ?_) (fun q96 => ?_)
                  · unfold f_X1_errorOf_J104
                    refine ok_ite (fun q97 => ?_) (fun q97 => ?_)
                    · refine ok_ite (fun q98 => ?_) (fun q98 => ?_)
                      · have p99 : (32 : Int32) ≤ (32 : Int32) ∧ (32 : Int32) ≤ (122 : Int32) := by
                          exact ⟨by grind, by grind⟩
                        exact ok_some p99
                      · have p100 : (32 : Int32) ≤ (108 : Int32) ∧ (108 : Int32) ≤ (122 : Int32) := by
                          exact ⟨by grind, by grind⟩
                        exact ok_some p100
                    · have p101 : (32 : Int32) ≤ (32 : Int32) ∧ (32 : Int32) ≤ (122 : Int32) := by
                        exact ⟨by grind, by grind⟩
                      exact ok_some p101
                  · refine ok_ite (fun q102 => ?_) (fun q102 => ?_)
                    · unfold f_X1_errorOf_J104
                      refine ok_ite (fun q103 => ?_) (fun q103 => ?_)
                      · refine ok_ite (fun q104 => ?_) (fun q104 => ?_)
                        · have p105 : (32 : Int32) ≤ (32 : Int32) ∧ (32 : Int32) ≤ (122 : Int32) := by
                            exact ⟨by grind, by grind⟩
                          exact ok_some p105
                        · have p106 : (32 : Int32) ≤ (108 : Int32) ∧ (108 : Int32) ≤ (122 : Int32) := by
                            exact ⟨by grind, by grind⟩
                          exact ok_some p106
                      · have p107 : (32 : Int32) ≤ (32 : Int32) ∧ (32 : Int32) ≤ (122 : Int32) := by
                          exact ⟨by grind, by grind⟩
                        exact ok_some p107
                    · have p108 : (32 : Int32) ≤ (118 : Int32) ∧ (118 : Int32) ≤ (122 : Int32) := by
                        exact ⟨by grind, by grind⟩
                      exact ok_some p108
                · unfold f_X1_errorOf_J87
                  refine ok_ite (fun q109 => ?_) (fun q109 => ?_)
                  · unfold f_X1_errorOf_J104
                    refine ok_ite (fun q110 => ?_) (fun q110 => ?_)
                    · refine ok_ite (fun q111 => ?_) (fun q111 => ?_)
                      · have p112 : (32 : Int32) ≤ (32 : Int32) ∧ (32 : Int32) ≤ (122 : Int32) := by
                          exact ⟨by grind, by grind⟩
                        exact ok_some p112
                      · have p113 : (32 : Int32) ≤ (108 : Int32) ∧ (108 : Int32) ≤ (122 : Int32) := by
                          exact ⟨by grind, by grind⟩
                        exact ok_some p113
                    · have p114 : (32 : Int32) ≤ (32 : Int32) ∧ (32 : Int32) ≤ (122 : Int32) := by
                        exact ⟨by grind, by grind⟩
                      exact ok_some p114
                  · refine ok_ite (fun q115 => ?_) (fun q115 => ?_)
                    · unfold f_X1_errorOf_J104
                      refine ok_ite (fun q116 => ?_) (fun q116 => ?_)
                      · refine ok_ite (fun q117 => ?_) (fun q117 => ?_)
                        · have p118 : (32 : Int32) ≤ (32 : Int32) ∧ (32 : Int32) ≤ (122 : Int32) := by
                            exact ⟨by grind, by grind⟩
                          exact ok_some p118
                        · have p119 : (32 : Int32) ≤ (108 : Int32) ∧ (108 : Int32) ≤ (122 : Int32) := by
                            exact ⟨by grind, by grind⟩
                          exact ok_some p119
                      · have p120 : (32 : Int32) ≤ (32 : Int32) ∧ (32 : Int32) ≤ (122 : Int32) := by
                          exact ⟨by grind, by grind⟩
                        exact ok_some p120
                    · have p121 : (32 : Int32) ≤ (118 : Int32) ∧ (118 : Int32) ≤ (122 : Int32) := by
                        exact ⟨by grind, by grind⟩
                      exact ok_some p121
        · have p122 : (32 : Int32) ≤ (101 : Int32) ∧ (101 : Int32) ≤ (122 : Int32) := by
            exact ⟨by grind, by grind⟩
          exact ok_some p122
      · unfold f_X1_errorOf_J47
        refine ok_ite (fun q123 => ?_) (fun q123 => ?_)
        · refine ok_b0 (s_X1_numberUnder X hX i0 (0 : Int32) ⟨by decide, by decide⟩) (fun v19 w124 => ?_)
          refine ok_ite (fun q125 => ?_) (fun q125 => ?_)
          · have p126 : (32 : Int32) ≤ (122 : Int32) ∧ (122 : Int32) ≤ (122 : Int32) := by
              exact ⟨by grind, by grind⟩
            exact ok_some p126
          · unfold f_X1_errorOf_J64
            refine ok_ite (fun q127 => ?_) (fun q127 => ?_)
            · unfold f_X1_errorOf_J82
              unfold f_X1_errorOf_J87
              refine ok_ite (fun q128 => ?_) (fun q128 => ?_)
              · unfold f_X1_errorOf_J104
                refine ok_ite (fun q129 => ?_) (fun q129 => ?_)
                · refine ok_ite (fun q130 => ?_) (fun q130 => ?_)
                  · have p131 : (32 : Int32) ≤ (32 : Int32) ∧ (32 : Int32) ≤ (122 : Int32) := by
                      exact ⟨by grind, by grind⟩
                    exact ok_some p131
                  · have p132 : (32 : Int32) ≤ (108 : Int32) ∧ (108 : Int32) ≤ (122 : Int32) := by
                      exact ⟨by grind, by grind⟩
                    exact ok_some p132
                · have p133 : (32 : Int32) ≤ (32 : Int32) ∧ (32 : Int32) ≤ (122 : Int32) := by
                    exact ⟨by grind, by grind⟩
                  exact ok_some p133
              · refine ok_ite (fun q134 => ?_) (fun q134 => ?_)
                · unfold f_X1_errorOf_J104
                  refine ok_ite (fun q135 => ?_) (fun q135 => ?_)
                  · refine ok_ite (fun q136 => ?_) (fun q136 => ?_)
                    · have p137 : (32 : Int32) ≤ (32 : Int32) ∧ (32 : Int32) ≤ (122 : Int32) := by
                        exact ⟨by grind, by grind⟩
                      exact ok_some p137
                    · have p138 : (32 : Int32) ≤ (108 : Int32) ∧ (108 : Int32) ≤ (122 : Int32) := by
                        exact ⟨by grind, by grind⟩
                      exact ok_some p138
                  · have p139 : (32 : Int32) ≤ (32 : Int32) ∧ (32 : Int32) ≤ (122 : Int32) := by
                      exact ⟨by grind, by grind⟩
                    exact ok_some p139
                · have p140 : (32 : Int32) ≤ (118 : Int32) ∧ (118 : Int32) ≤ (122 : Int32) := by
                    exact ⟨by grind, by grind⟩
                  exact ok_some p140
            · refine ok_ite (fun q141 => ?_) (fun q141 => ?_)
              · unfold f_X1_errorOf_J82
                unfold f_X1_errorOf_J87
                refine ok_ite (fun q142 => ?_) (fun q142 => ?_)
                · unfold f_X1_errorOf_J104
                  refine ok_ite (fun q143 => ?_) (fun q143 => ?_)
                  · refine ok_ite (fun q144 => ?_) (fun q144 => ?_)
                    · have p145 : (32 : Int32) ≤ (32 : Int32) ∧ (32 : Int32) ≤ (122 : Int32) := by
                        exact ⟨by grind, by grind⟩
                      exact ok_some p145
                    · have p146 : (32 : Int32) ≤ (108 : Int32) ∧ (108 : Int32) ≤ (122 : Int32) := by
                        exact ⟨by grind, by grind⟩
                      exact ok_some p146
                  · have p147 : (32 : Int32) ≤ (32 : Int32) ∧ (32 : Int32) ≤ (122 : Int32) := by
                      exact ⟨by grind, by grind⟩
                    exact ok_some p147
                · refine ok_ite (fun q148 => ?_) (fun q148 => ?_)
                  · unfold f_X1_errorOf_J104
                    refine ok_ite (fun q149 => ?_) (fun q149 => ?_)
                    · refine ok_ite (fun q150 => ?_) (fun q150 => ?_)
                      · have p151 : (32 : Int32) ≤ (32 : Int32) ∧ (32 : Int32) ≤ (122 : Int32) := by
                          exact ⟨by grind, by grind⟩
                        exact ok_some p151
                      · have p152 : (32 : Int32) ≤ (108 : Int32) ∧ (108 : Int32) ≤ (122 : Int32) := by
                          exact ⟨by grind, by grind⟩
                        exact ok_some p152
                    · have p153 : (32 : Int32) ≤ (32 : Int32) ∧ (32 : Int32) ≤ (122 : Int32) := by
                        exact ⟨by grind, by grind⟩
                      exact ok_some p153
                  · have p154 : (32 : Int32) ≤ (118 : Int32) ∧ (118 : Int32) ≤ (122 : Int32) := by
                      exact ⟨by grind, by grind⟩
                    exact ok_some p154
              · refine ok_ite (fun q155 => ?_) (fun q155 => ?_)
                · unfold f_X1_errorOf_J82
                  unfold f_X1_errorOf_J87
                  refine ok_ite (fun q156 => ?_) (fun q156 => ?_)
                  · unfold f_X1_errorOf_J104
                    refine ok_ite (fun q157 => ?_) (fun q157 => ?_)
                    · refine ok_ite (fun q158 => ?_) (fun q158 => ?_)
                      · have p159 : (32 : Int32) ≤ (32 : Int32) ∧ (32 : Int32) ≤ (122 : Int32) := by
                          exact ⟨by grind, by grind⟩
                        exact ok_some p159
                      · have p160 : (32 : Int32) ≤ (108 : Int32) ∧ (108 : Int32) ≤ (122 : Int32) := by
                          exact ⟨by grind, by grind⟩
                        exact ok_some p160
                    · have p161 : (32 : Int32) ≤ (32 : Int32) ∧ (32 : Int32) ≤ (122 : Int32) := by
                        exact ⟨by grind, by grind⟩
                      exact ok_some p161
                  · refine ok_ite (fun q162 => ?_) (fun q162 => ?_)
                    · unfold f_X1_errorOf_J104
                      refine ok_ite (fun q163 => ?_) (fun q163 => ?_)
                      · refine ok_ite (fun q164 => ?_) (fun q164 => ?_)
                        · have p165 : (32 : Int32) ≤ (32 : Int32) ∧ (32 : Int32) ≤ (122 : Int32) := by
                            exact ⟨by grind, by grind⟩
                          exact ok_some p165
                        · have p166 : (32 : Int32) ≤ (108 : Int32) ∧ (108 : Int32) ≤ (122 : Int32) := by
                            exact ⟨by grind, by grind⟩
                          exact ok_some p166
                      · have p167 : (32 : Int32) ≤ (32 : Int32) ∧ (32 : Int32) ≤ (122 : Int32) := by
                          exact ⟨by grind, by grind⟩
                        exact ok_some p167
                    · have p168 : (32 : Int32) ≤ (118 : Int32) ∧ (118 : Int32) ≤ (122 : Int32) := by
                        exact ⟨by grind, by grind⟩
                      exact ok_some p168
                · unfold f_X1_errorOf_J87
                  refine ok_ite (fun q169 => ?_) (fun q169 => ?_)
                  · unfold f_X1_errorOf_J104
                    refine ok_ite (fun q170 => ?_) (fun q170 => ?_)
                    · refine ok_ite (fun q171 => ?_) (fun q171 => ?_)
                      · have p172 : (32 : Int32) ≤ (32 : Int32) ∧ (32 : Int32) ≤ (122 : Int32) := by
                          exact ⟨by grind, by grind⟩
                        exact ok_some p172
                      · have p173 : (32 : Int32) ≤ (108 : Int32) ∧ (108 : Int32) ≤ (122 : Int32) := by
                          exact ⟨by grind, by grind⟩
                        exact ok_some p173
                    · have p174 : (32 : Int32) ≤ (32 : Int32) ∧ (32 : Int32) ≤ (122 : Int32) := by
                        exact ⟨by grind, by grind⟩
                      exact ok_some p174
                  · refine ok_ite (fun q175 => ?_) (fun q175 => ?_)
                    · unfold f_X1_errorOf_J104
                      refine ok_ite (fun q176 => ?_) (fun q176 => ?_)
                      · refine ok_ite (fun q177 => ?_) (fun q177 => ?_)
                        · have p178 : (32 : Int32) ≤ (32 : Int32) ∧ (32 : Int32) ≤ (122 : Int32) := by
                            exact ⟨by grind, by grind⟩
                          exact ok_some p178
                        · have p179 : (32 : Int32) ≤ (108 : Int32) ∧ (108 : Int32) ≤ (122 : Int32) := by
                            exact ⟨by grind, by grind⟩
                          exact ok_some p179
                      · have p180 : (32 : Int32) ≤ (32 : Int32) ∧ (32 : Int32) ≤ (122 : Int32) := by
                          exact ⟨by grind, by grind⟩
                        exact ok_some p180
                    · have p181 : (32 : Int32) ≤ (118 : Int32) ∧ (118 : Int32) ≤ (122 : Int32) := by
                        exact ⟨by grind, by grind⟩
                      exact ok_some p181
        · unfold f_X1_errorOf_J64
          refine ok_ite (fun q182 => ?_) (fun q182 => ?_)
          · unfold f_X1_errorOf_J82
            unfold f_X1_errorOf_J87
            refine ok_ite (fun q183 => ?_) (fun q183 => ?_)
            · unfold f_X1_errorOf_J104
              refine ok_ite (fun q184 => ?_) (fun q184 => ?_)
              · refine ok_ite (fun q185 => ?_) (fun q185 => ?_)
                · have p186 : (32 : Int32) ≤ (32 : Int32) ∧ (32 : Int32) ≤ (122 : Int32) := by
                    exact ⟨by grind, by grind⟩
                  exact ok_some p186
                · have p187 : (32 : Int32) ≤ (108 : Int32) ∧ (108 : Int32) ≤ (122 : Int32) := by
                    exact ⟨by grind, by grind⟩
                  exact ok_some p187
              · have p188 : (32 : Int32) ≤ (32 : Int32) ∧ (32 : Int32) ≤ (122 : Int32) := by
                  exact ⟨by grind, by grind⟩
                exact ok_some p188
            · refine ok_ite (fun q189 => ?_) (fun q189 => ?_)
              · unfold f_X1_errorOf_J104
                refine ok_ite (fun q190 => ?_) (fun q190 => ?_)
                · refine ok_ite (fun q191 => ?_) (fun q191 => ?_)
                  · have p192 : (32 : Int32) ≤ (32 : Int32) ∧ (32 : Int32) ≤ (122 : Int32) := by
                      exact ⟨by grind, by grind⟩
                    exact ok_some p192
                  · have p193 : (32 : Int32) ≤ (108 : Int32) ∧ (108 : Int32) ≤ (122 : Int32) := by
                      exact ⟨by grind, by grind⟩
                    exact ok_some p193
                · have p194 : (32 : Int32) ≤ (32 : Int32) ∧ (32 : Int32) ≤ (122 : Int32) := by
                    exact ⟨by grind, by grind⟩
                  exact ok_some p194
              · have p195 : (32 : Int32) ≤ (118 : Int32) ∧ (118 : Int32) ≤ (122 : Int32) := by
                  exact ⟨by grind, by grind⟩
                exact ok_some p195
          · refine ok_ite (fun q196 => ?_) (fun q196 => ?_)
            · unfold f_X1_errorOf_J82
              unfold f_X1_errorOf_J87
              refine ok_ite (fun q197 => ?_) (fun q197 => ?_)
              · unfold f_X1_errorOf_J104
                refine ok_ite (fun q198 => ?_) (fun q198 => ?_)
                · refine ok_ite (fun q199 => ?_) (fun q199 => ?_)
                  · have p200 : (32 : Int32) ≤ (32 : Int32) ∧ (32 : Int32) ≤ (122 : Int32) := by
                      exact ⟨by grind, by grind⟩
                    exact ok_some p200
                  · have p201 : (32 : Int32) ≤ (108 : Int32) ∧ (108 : Int32) ≤ (122 : Int32) := by
                      exact ⟨by grind, by grind⟩
                    exact ok_some p201
                · have p202 : (32 : Int32) ≤ (32 : Int32) ∧ (32 : Int32) ≤ (122 : Int32) := by
                    exact ⟨by grind, by grind⟩
                  exact ok_some p202
              · refine ok_ite (fun q203 => ?_) (fun q203 => ?_)
                · unfold f_X1_errorOf_J104
                  refine ok_ite (fun q204 => ?_) (fun q204 => ?_)
                  · refine ok_ite (fun q205 => ?_) (fun q205 => ?_)
                    · have p206 : (32 : Int32) ≤ (32 : Int32) ∧ (32 : Int32) ≤ (122 : Int32) := by
                        exact ⟨by grind, by grind⟩
                      exact ok_some p206
                    · have p207 : (32 : Int32) ≤ (108 : Int32) ∧ (108 : Int32) ≤ (122 : Int32) := by
                        exact ⟨by grind, by grind⟩
                      exact ok_some p207
                  · have p208 : (32 : Int32) ≤ (32 : Int32) ∧ (32 : Int32) ≤ (122 : Int32) := by
                      exact ⟨by grind, by grind⟩
                    exact ok_some p208
                · have p209 : (32 : Int32) ≤ (118 : Int32) ∧ (118 : Int32) ≤ (122 : Int32) := by
                    exact ⟨by grind, by grind⟩
                  exact ok_some p209
            · refine ok_ite (fun q210 => ?_) (fun q210 => ?_)
              · unfold f_X1_errorOf_J82
                unfold f_X1_errorOf_J87
                refine ok_ite (fun q211 => ?_) (fun q211 => ?_)
                · unfold f_X1_errorOf_J104
                  refine ok_ite (fun q212 => ?_) (fun q212 => ?_)
                  · refine ok_ite (fun q213 => ?_) (fun q213 => ?_)
                    · have p214 : (32 : Int32) ≤ (32 : Int32) ∧ (32 : Int32) ≤ (122 : Int32) := by
                        exact ⟨by grind, by grind⟩
                      exact ok_some p214
                    · have p215 : (32 : Int32) ≤ (108 : Int32) ∧ (108 : Int32) ≤ (122 : Int32) := by
                        exact ⟨by grind, by grind⟩
                      exact ok_some p215
                  · have p216 : (32 : Int32) ≤ (32 : Int32) ∧ (32 : Int32) ≤ (122 : Int32) := by
                      exact ⟨by grind, by grind⟩
                    exact ok_some p216
                · refine ok_ite (fun q217 => ?_) (fun q217 => ?_)
                  · unfold f_X1_errorOf_J104
                    refine ok_ite (fun q218 => ?_) (fun q218 => ?_)
                    · refine ok_ite (fun q219 => ?_) (fun q219 => ?_)
                      · have p220 : (32 : Int32) ≤ (32 : Int32) ∧ (32 : Int32) ≤ (122 : Int32) := by
                          exact ⟨by grind, by grind⟩
                        exact ok_some p220
                      · have p221 : (32 : Int32) ≤ (108 : Int32) ∧ (108 : Int32) ≤ (122 : Int32) := by
                          exact ⟨by grind, by grind⟩
                        exact ok_some p221
                    · have p222 : (32 : Int32) ≤ (32 : Int32) ∧ (32 : Int32) ≤ (122 : Int32) := by
                        exact ⟨by grind, by grind⟩
                      exact ok_some p222
                  · have p223 : (32 : Int32) ≤ (118 : Int32) ∧ (118 : Int32) ≤ (122 : Int32) := by
                      exact ⟨by grind, by grind⟩
                    exact ok_some p223
              · unfold f_X1_errorOf_J87
                refine ok_ite (fun q224 => ?_) (fun q224 => ?_)
                · unfold f_X1_errorOf_J104
                  refine ok_ite (fun q225 => ?_) (fun q225 => ?_)
                  · refine ok_ite (fun q226 => ?_) (fun q226 => ?_)
                    · have p227 : (32 : Int32) ≤ (32 : Int32) ∧ (32 : Int32) ≤ (122 : Int32) := by
                        exact ⟨by grind, by grind⟩
                      exact ok_some p227
                    · have p228 : (32 : Int32) ≤ (108 : Int32) ∧ (108 : Int32) ≤ (122 : Int32) := by
                        exact ⟨by grind, by grind⟩
                      exact ok_some p228
                  · have p229 : (32 : Int32) ≤ (32 : Int32) ∧ (32 : Int32) ≤ (122 : Int32) := by
                      exact ⟨by grind, by grind⟩
                    exact ok_some p229
                · refine ok_ite (fun q230 => ?_) (fun q230 => ?_)
                  · unfold f_X1_errorOf_J104
                    refine ok_ite (fun q231 => ?_) (fun q231 => ?_)
                    · refine ok_ite (fun q232 => ?_) (fun q232 => ?_)
                      · have p233 : (32 : Int32) ≤ (32 : Int32) ∧ (32 : Int32) ≤ (122 : Int32) := by
                          exact ⟨by grind, by grind⟩
                        exact ok_some p233
                      · have p234 : (32 : Int32) ≤ (108 : Int32) ∧ (108 : Int32) ≤ (122 : Int32) := by
                          exact ⟨by grind, by grind⟩
                        exact ok_some p234
                    · have p235 : (32 : Int32) ≤ (32 : Int32) ∧ (32 : Int32) ≤ (122 : Int32) := by
                        exact ⟨by grind, by grind⟩
                      exact ok_some p235
                  · have p236 : (32 : Int32) ≤ (118 : Int32) ∧ (118 : Int32) ≤ (122 : Int32) := by
                      exact ⟨by grind, by grind⟩
                    exact ok_some p236
    · have p237 : (32 : Int32) ≤ (117 : Int32) ∧ (117 : Int32) ≤ (122 : Int32) := by
        exact ⟨by grind, by grind⟩
      exact ok_some p237
  · have p238 : (32 : Int32) ≤ (116 : Int32) ∧ (116 : Int32) ≤ (122 : Int32) := by
      exact ⟨by grind, by grind⟩
    exact ok_some p238
theorem s_X1_replace {A : Nat → Nat → Nat → Prop} {B : SS} (X : SS) (hX : IV A B X) (i0 : Nat) (p0 : Int32) (ip0 : (0 : Int32) ≤ p0 ∧ p0 ≤ (2 : Int32)) (p1 : Int32) (a1 : A 16 i0 4) (a2 : ∀ p, A 17 i0 p) : ok (f_X1_replace X i0 p0 p1) (fun r => IV A B r.1 ∧ True) := by
  unfold f_X1_replace
  refine ok_ite (fun q1 => ?_) (fun q1 => ?_)
  · unfold f_X1_replace_J19
    refine ok_lq (fun X3 e2 => ?_)
    have hX3 : IV A B X3 := by rw [e2]; exact hX.u1 rfl (a1) ⟨by decide, by decide⟩
    refine ok_ite (fun q3 => ?_) (fun q3 => ?_)
    · exact ok_some ⟨hX3, trivial⟩
    · refine ok_gd ?_ (fun g4 => ?_)
      · have c5 : (0 : Int32) ≤ (X3.1 16 i0 4) ∧ (X3.1 16 i0 4) ≤ (12 : Int32) := hX3.at1 16 i0 4
        have c6 : (X3.1 16 i0 4) = (0 : Int32) := by rw [e2]; exact up_s
        have c7 : (0 : Int32) ≤ (X.1 16 i0 4) ∧ (X.1 16 i0 4) ≤ (12 : Int32) := hX.at1 16 i0 4
        exact vp_of (by decide) (by grind) (show (X3.1 16 i0 4) < (12 : Int32) by grind)
      have g4 := vp_to (by decide) g4
      have g4 : (0 : Int32) ≤ (X3.1 16 i0 4) ∧ (X3.1 16 i0 4) < (12 : Int32) := g4
      refine ok_lq (fun X6 e8 => ?_)
      have hX6 : IV A B X6 := by rw [e8]; exact hX3.u1f rfl (a2 (((X3.1 16 i0 4)).toNatClampNeg)) rfl
      refine ok_lq (fun X7 e9 => ?_)
      have p10 : (0 : Int32) ≤ ((X6.1 16 i0 4) + (1 : Int32)) ∧ ((X6.1 16 i0 4) + (1 : Int32)) ≤ (12 : Int32) := by
        have c11 : (0 : Int32) ≤ (X6.1 16 i0 4) ∧ (X6.1 16 i0 4) ≤ (12 : Int32) := hX6.at1 16 i0 4
        have c12 : (X6.1 16 i0 4) = (X3.1 16 i0 4) := by rw [e8]; exact up_k (by decide)
        have c13 : (0 : Int32) ≤ (X.1 16 i0 4) ∧ (X.1 16 i0 4) ≤ (12 : Int32) := hX.at1 16 i0 4
        have c14 : (0 : Int32) ≤ (X3.1 16 i0 4) ∧ (X3.1 16 i0 4) ≤ (12 : Int32) := hX3.at1 16 i0 4
        have c15 : (X3.1 16 i0 4) = (0 : Int32) := by rw [e2]; exact up_s
        exact ⟨by grind, by grind⟩
      have hX7 : IV A B X7 := by rw [e9]; exact hX6.u1 rfl (a1) p10
      exact ok_some ⟨hX7, trivial⟩
  · unfold f_X1_replace_J19
    refine ok_lq (fun X3 e16 => ?_)
    have p17 : (0 : Int32) ≤ ((X.1 16 i0 4) - p0) ∧ ((X.1 16 i0 4) - p0) ≤ (12 : Int32) := by
      have c18 : (0 : Int32) ≤ (X.1 16 i0 4) ∧ (X.1 16 i0 4) ≤ (12 : Int32) := hX.at1 16 i0 4
      exact ⟨by grind, by grind⟩
    have hX3 : IV A B X3 := by rw [e16]; exact hX.u1 rfl (a1) p17
    refine ok_ite (fun q19 => ?_) (fun q19 => ?_)
    · exact ok_some ⟨hX3, trivial⟩
    · refine ok_gd ?_ (fun g20 => ?_)
      · have c21 : (0 : Int32) ≤ (X3.1 16 i0 4) ∧ (X3.1 16 i0 4) ≤ (12 : Int32) := hX3.at1 16 i0 4
        have c22 : (X3.1 16 i0 4) = ((X.1 16 i0 4) - p0) := by rw [e16]; exact up_s
        have c23 : (0 : Int32) ≤ (X.1 16 i0 4) ∧ (X.1 16 i0 4) ≤ (12 : Int32) := hX.at1 16 i0 4
        exact vp_of (by decide) (by grind) (show (X3.1 16 i0 4) < (12 : Int32) by grind)
      have g20 := vp_to (by decide) g20
      have g20 : (0 : Int32) ≤ (X3.1 16 i0 4) ∧ (X3.1 16 i0 4) < (12 : Int32) := g20
      refine ok_lq (fun X6 e24 => ?_)
      have hX6 : IV A B X6 := by rw [e24]; exact hX3.u1f rfl (a2 (((X3.1 16 i0 4)).toNatClampNeg)) rfl
      refine ok_lq (fun X7 e25 => ?_)
      have p26 : (0 : Int32) ≤ ((X6.1 16 i0 4) + (1 : Int32)) ∧ ((X6.1 16 i0 4) + (1 : Int32)) ≤ (12 : Int32) := by
        have c27 : (0 : Int32) ≤ (X6.1 16 i0 4) ∧ (X6.1 16 i0 4) ≤ (12 : Int32) := hX6.at1 16 i0 4
        have c28 : (X6.1 16 i0 4) = (X3.1 16 i0 4) := by rw [e24]; exact up_k (by decide)
        have c29 : (0 : Int32) ≤ (X.1 16 i0 4) ∧ (X.1 16 i0 4) ≤ (12 : Int32) := hX.at1 16 i0 4
        have c30 : (0 : Int32) ≤ (X3.1 16 i0 4) ∧ (X3.1 16 i0 4) ≤ (12 : Int32) := hX3.at1 16 i0 4
        have c31 : (X3.1 16 i0 4) = ((X.1 16 i0 4) - p0) := by rw [e16]; exact up_s
        exact ⟨by grind, by grind⟩
      have hX7 : IV A B X7 := by rw [e25]; exact hX6.u1 rfl (a1) p26
      exact ok_some ⟨hX7, trivial⟩
theorem s_X1_nextInput {A : Nat → Nat → Nat → Prop} {B : SS} (X : SS) (hX : IV A B X) (i0 : Nat) (i1 : Nat) (a1 : A 16 i0 7) : ok (f_X1_nextInput X i0 i1) (fun r => IV A B r.1 ∧ True) := by
  unfold f_X1_nextInput
  refine ok_ite (fun q1 => ?_) (fun q1 => ?_)
  · refine ok_lq (fun X2 e2 => ?_)
    have p3 : (0 : Int32) ≤ ((X.1 16 i0 7) + (1 : Int32)) ∧ ((X.1 16 i0 7) + (1 : Int32)) ≤ (4 : Int32) := by
      have c4 : (0 : Int32) ≤ (X.1 16 i0 7) ∧ (X.1 16 i0 7) ≤ (4 : Int32) := hX.at1 16 i0 7
      have c5 : (0 : Int32) ≤ (X.1 4 i1 2) ∧ (X.1 4 i1 2) ≤ (4 : Int32) := hX.at1 4 i1 2
      exact ⟨by grind, by grind⟩
    have hX2 : IV A B X2 := by rw [e2]; exact hX.u1 rfl (a1) p3
    refine ok_gd ?_ (fun g6 => ?_)
    · have c7 : (0 : Int32) ≤ (X2.1 16 i0 7) ∧ (X2.1 16 i0 7) ≤ (4 : Int32) := hX2.at1 16 i0 7
      have c8 : (X2.1 16 i0 7) = ((X.1 16 i0 7) + (1 : Int32)) := by rw [e2]; exact up_s
      have c9 : (0 : Int32) ≤ (X.1 16 i0 7) ∧ (X.1 16 i0 7) ≤ (4 : Int32) := hX.at1 16 i0 7
      have c10 : (0 : Int32) ≤ (X.1 4 i1 2) ∧ (X.1 4 i1 2) ≤ (4 : Int32) := hX.at1 4 i1 2
      exact vp_of (by decide) (by grind) (show ((X2.1 16 i0 7) - (1 : Int32)) < (4 : Int32) by grind)
    have g6 := vp_to (by decide) g6
    have g6 : (0 : Int32) ≤ ((X2.1 16 i0 7) - (1 : Int32)) ∧ ((X2.1 16 i0 7) - (1 : Int32)) < (4 : Int32) := g6
    exact ok_some ⟨hX2, trivial⟩
  · exact ok_some ⟨hX, trivial⟩
theorem s_X1_pop {A : Nat → Nat → Nat → Prop} {B : SS} (X : SS) (hX : IV A B X) (i0 : Nat) (a1 : A 16 i0 4) : ok (f_X1_pop X i0) (fun r => IV A B r.1 ∧ True) := by
  unfold f_X1_pop
  refine ok_ite (fun q1 => ?_) (fun q1 => ?_)
  · refine ok_lq (fun X2 e2 => ?_)
    have hX2 : IV A B X2 := by rw [e2]; exact hX.u1 rfl (a1) ⟨by decide, by decide⟩
    exact ok_some ⟨hX2, trivial⟩
  · refine ok_lq (fun X3 e3 => ?_)
    have p4 : (0 : Int32) ≤ ((X.1 16 i0 4) - (1 : Int32)) ∧ ((X.1 16 i0 4) - (1 : Int32)) ≤ (12 : Int32) := by
      have c5 : (0 : Int32) ≤ (X.1 16 i0 4) ∧ (X.1 16 i0 4) ≤ (12 : Int32) := hX.at1 16 i0 4
      exact ⟨by grind, by grind⟩
    have hX3 : IV A B X3 := by rw [e3]; exact hX.u1 rfl (a1) p4
    exact ok_some ⟨hX3, trivial⟩
theorem s_X1_write {A : Nat → Nat → Nat → Prop} {B : SS} (X : SS) (hX : IV A B X) (i0 : Nat) (p0 : Int32) (a1 : A 16 i0 5) (a2 : ∀ p, A 18 i0 p) : ok (f_X1_write X i0 p0) (fun r => IV A B r.1 ∧ True) := by
  unfold f_X1_write
  refine ok_ite (fun q1 => ?_) (fun q1 => ?_)
  · exact ok_some ⟨hX, trivial⟩
  · refine ok_gd ?_ (fun g2 => ?_)
    · have c3 : (0 : Int32) ≤ (X.1 16 i0 5) ∧ (X.1 16 i0 5) ≤ (6 : Int32) := hX.at1 16 i0 5
      exact vp_of (by decide) (by grind) (show (X.1 16 i0 5) < (6 : Int32) by grind)
    have g2 := vp_to (by decide) g2
    have g2 : (0 : Int32) ≤ (X.1 16 i0 5) ∧ (X.1 16 i0 5) < (6 : Int32) := g2
    refine ok_lq (fun X3 e4 => ?_)
    have hX3 : IV A B X3 := by rw [e4]; exact hX.u1f rfl (a2 (((X.1 16 i0 5)).toNatClampNeg)) rfl
    refine ok_lq (fun X4 e5 => ?_)
    have p6 : (0 : Int32) ≤ ((X3.1 16 i0 5) + (1 : Int32)) ∧ ((X3.1 16 i0 5) + (1 : Int32)) ≤ (6 : Int32) := by
      have c7 : (0 : Int32) ≤ (X3.1 16 i0 5) ∧ (X3.1 16 i0 5) ≤ (6 : Int32) := hX3.at1 16 i0 5
      have c8 : (X3.1 16 i0 5) = (X.1 16 i0 5) := by rw [e4]; exact up_k (by decide)
      have c9 : (0 : Int32) ≤ (X.1 16 i0 5) ∧ (X.1 16 i0 5) ≤ (6 : Int32) := hX.at1 16 i0 5
      exact ⟨by grind, by grind⟩
    have hX4 : IV A B X4 := by rw [e5]; exact hX3.u1 rfl (a1) p6
    exact ok_some ⟨hX4, trivial⟩
theorem s_X1_perform {A : Nat → Nat → Nat → Prop} {B : SS} (X : SS) (hX : IV A B X) (i0 : Nat) (p0 : Int32) (ip0 : (0 : Int32) ≤ p0 ∧ p0 ≤ (65535 : Int32)) (p1 : Int32) (i3 : Nat) (x0 : (X.1 16 i0 8) < (24 : Int32)) (a1 : A 16 i0 4) (a2 : A 16 i0 5) (a3 : A 16 i0 7) (a4 : A 16 i0 8) (a5 : ∀ p, A 17 i0 p) (a6 : ∀ p, A 18 i0 p) : ok (f_X1_perform X i0 p0 p1 i3) (fun r => IV A B r.1 ∧ True) := by
  unfold f_X1_perform
  refine ok_b0 (s_X1_numberUnder X hX i0 (0 : Int32) ⟨by decide, by decide⟩) (fun v1 w1 => ?_)
  refine ok_b0 (s_X1_numberUnder X hX i0 (1 : Int32) ⟨by decide, by decide⟩) (fun v3 w2 => ?_)
  refine ok_lq (fun v5 e3 => ?_)
  refine ok_ite (fun q4 => ?_) (fun q4 => ?_)
  · refine ok_ite (fun q5 => ?_) (fun q5 => ?_)
    · refine ok_b1 (s_X1_replace X hX i0 (2 : Int32) ⟨by decide, by decide⟩ (0 : Int32) (a1) (fun p => a5 p)) (fun X15 v14 w6 => ?_)
      have hX15 : IV A B X15 := w6.1
      refine ok_lq (fun X17 e7 => ?_)
      have p8 : (0 : Int32) ≤ v5 ∧ v5 ≤ (24 : Int32) := by
        have c9 : (0 : Int32) ≤ (X.1 16 i0 8) ∧ (X.1 16 i0 8) ≤ (24 : Int32) := hX.at1 16 i0 8
        exact ⟨by grind, by grind⟩
      have hX17 : IV A B X17 := by rw [e7]; exact hX15.u1 rfl (a4) p8
      exact ok_some ⟨hX17, trivial⟩
    · refine ok_gd ?_ (fun g10 => ?_)
      · grind
      refine ok_b1 (s_X1_replace X hX i0 (2 : Int32) ⟨by decide, by decide⟩ (v3 - v3 / v1 * v1) (a1) (fun p => a5 p)) (fun X11 v10 w11 => ?_)
      have hX11 : IV A B X11 := w11.1
      refine ok_lq (fun X13 e12 => ?_)
      have p13 : (0 : Int32) ≤ v5 ∧ v5 ≤ (24 : Int32) := by
        have c14 : (0 : Int32) ≤ (X.1 16 i0 8) ∧ (X.1 16 i0 8) ≤ (24 : Int32) := hX.at1 16 i0 8
        exact ⟨by grind, by grind⟩
      have hX13 : IV A B X13 := by rw [e12]; exact hX11.u1 rfl (a4) p13
      exact ok_some ⟨hX13, trivial⟩
  · refine ok_ite (fun q15 => ?_) (fun q15 => ?_)
    · refine ok_b1 (s_X1_replace X hX i0 (2 : Int32) ⟨by decide, by decide⟩ (v3 * v1) (a1) (fun p => a5 p)) (fun X20 v19 w16 => ?_)
      have hX20 : IV A B X20 := w16.1
      refine ok_lq (fun X22 e17 => ?_)
      have p18 : (0 : Int32) ≤ v5 ∧ v5 ≤ (24 : Int32) := by
        have c19 : (0 : Int32) ≤ (X.1 16 i0 8) ∧ (X.1 16 i0 8) ≤ (24 : Int32) := hX.at1 16 i0 8
        exact ⟨by grind, by grind⟩
      have hX22 : IV A B X22 := by rw [e17]; exact hX20.u1 rfl (a4) p18
      exact ok_some ⟨hX22, trivial⟩
    · refine ok_ite (fun q20 => ?_) (fun q20 => ?_)
      · refine ok_b1 (s_X1_replace X hX i0 (2 : Int32) ⟨by decide, by decide⟩ (v3 + v1) (a1) (fun p => a5 p)) (fun X25 v24 w21 => ?_)
        have hX25 : IV A B X25 := w21.1
        refine ok_lq (fun X27 e22 => ?_)
        have p23 : (0 : Int32) ≤ v5 ∧ v5 ≤ (24 : Int32) := by
          have c24 : (0 : Int32) ≤ (X.1 16 i0 8) ∧ (X.1 16 i0 8) ≤ (24 : Int32) := hX.at1 16 i0 8
          exact ⟨by grind, by grind⟩
        have hX27 : IV A B X27 := by rw [e22]; exact hX25.u1 rfl (a4) p23
        exact ok_some ⟨hX27, trivial⟩
      · refine ok_ite (fun q25 => ?_) (fun q25 => ?_)
        · refine ok_b1 (s_X1_replace X hX i0 (2 : Int32) ⟨by decide, by decide⟩ (v3 - v1) (a1) (fun p => a5 p)) (fun X30 v29 w26 => ?_)
          have hX30 : IV A B X30 := w26.1
          refine ok_lq (fun X32 e27 => ?_)
          have p28 : (0 : Int32) ≤ v5 ∧ v5 ≤ (24 : Int32) := by
            have c29 : (0 : Int32) ≤ (X.1 16 i0 8) ∧ (X.1 16 i0 8) ≤ (24 : Int32) := hX.at1 16 i0 8
            exact ⟨by grind, by grind⟩
          have hX32 : IV A B X32 := by rw [e27]; exact hX30.u1 rfl (a4) p28
          exact ok_some ⟨hX32, trivial⟩
        · refine ok_ite (fun q30 => ?_) (fun q30 => ?_)
          · refine ok_ite (fun q31 => ?_) (fun q31 => ?_)
            · refine ok_gd ?_ (fun g32 => ?_)
              · have c33 : (0 : Int32) ≤ (X.1 16 i0 8) ∧ (X.1 16 i0 8) ≤ (24 : Int32) := hX.at1 16 i0 8
                exact vp_of (by decide) (by grind) (show (X.1 16 i0 8) < (24 : Int32) by grind)
              have g32 := vp_to (by decide) g32
              have g32 : (0 : Int32) ≤ (X.1 16 i0 8) ∧ (X.1 16 i0 8) < (24 : Int32) := g32
              refine ok_lq (fun v37 e34 => ?_)
              refine ok_lq (fun X38 e35 => ?_)
              have p36 : (0 : Int32) ≤ v37 ∧ v37 ≤ (24 : Int32) := by
                have c37 : (0 : Int32) ≤ (X.1 19 i0 ((X.1 16 i0 8)).toNatClampNeg) ∧ (X.1 19 i0 ((X.1 16 i0 8)).toNatClampNeg) ≤ (23 : Int32) := hX.at1 19 i0 (((X.1 16 i0 8)).toNatClampNeg)
                have c38 : (0 : Int32) ≤ (X.1 16 i0 8) ∧ (X.1 16 i0 8) ≤ (24 : Int32) := hX.at1 16 i0 8
                exact ⟨by grind, by grind⟩
              have hX38 : IV A B X38 := by rw [e35]; exact hX.u1 rfl (a4) p36
              exact ok_some ⟨hX38, trivial⟩
            · refine ok_lq (fun X35 e39 => ?_)
              have p40 : (0 : Int32) ≤ v5 ∧ v5 ≤ (24 : Int32) := by
                have c41 : (0 : Int32) ≤ (X.1 16 i0 8) ∧ (X.1 16 i0 8) ≤ (24 : Int32) := hX.at1 16 i0 8
                exact ⟨by grind, by grind⟩
              have hX35 : IV A B X35 := by rw [e39]; exact hX.u1 rfl (a4) p40
              exact ok_some ⟨hX35, trivial⟩
          · refine ok_ite (fun q42 => ?_) (fun q42 => ?_)
            · refine ok_ite (fun q43 => ?_) (fun q43 => ?_)
              · refine ok_lq (fun X41 e44 => ?_)
                have p45 : (0 : Int32) ≤ v5 ∧ v5 ≤ (24 : Int32) := by
                  have c46 : (0 : Int32) ≤ (X.1 16 i0 8) ∧ (X.1 16 i0 8) ≤ (24 : Int32) := hX.at1 16 i0 8
                  exact ⟨by grind, by grind⟩
                have hX41 : IV A B X41 := by rw [e44]; exact hX.u1 rfl (a4) p45
                exact ok_some ⟨hX41, trivial⟩
              · refine ok_gd ?_ (fun g47 => ?_)
                · have c48 : (0 : Int32) ≤ (X.1 16 i0 8) ∧ (X.1 16 i0 8) ≤ (24 : Int32) := hX.at1 16 i0 8
                  exact vp_of (by decide) (by grind) (show (X.1 16 i0 8) < (24 : Int32) by grind)
                have g47 := vp_to (by decide) g47
                have g47 : (0 : Int32) ≤ (X.1 16 i0 8) ∧ (X.1 16 i0 8) < (24 : Int32) := g47
                refine ok_lq (fun v43 e49 => ?_)
                refine ok_lq (fun X44 e50 => ?_)
                have p51 : (0 : Int32) ≤ v43 ∧ v43 ≤ (24 : Int32) := by
                  have c52 : (0 : Int32) ≤ (X.1 19 i0 ((X.1 16 i0 8)).toNatClampNeg) ∧ (X.1 19 i0 ((X.1 16 i0 8)).toNatClampNeg) ≤ (23 : Int32) := hX.at1 19 i0 (((X.1 16 i0 8)).toNatClampNeg)
                  have c53 : (0 : Int32) ≤ (X.1 16 i0 8) ∧ (X.1 16 i0 8) ≤ (24 : Int32) := hX.at1 16 i0 8
                  exact ⟨by grind, by grind⟩
                have hX44 : IV A B X44 := by rw [e50]; exact hX.u1 rfl (a4) p51
                exact ok_some ⟨hX44, trivial⟩
            · refine ok_ite (fun q54 => ?_) (fun q54 => ?_)
              · refine ok_b1 (s_X1_replace X hX i0 (0 : Int32) ⟨by decide, by decide⟩ v1 (a1) (fun p => a5 p)) (fun X47 v46 w55 => ?_)
                have hX47 : IV A B X47 := w55.1
                refine ok_lq (fun X49 e56 => ?_)
                have p57 : (0 : Int32) ≤ v5 ∧ v5 ≤ (24 : Int32) := by
                  have c58 : (0 : Int32) ≤ (X.1 16 i0 8) ∧ (X.1 16 i0 8) ≤ (24 : Int32) := hX.at1 16 i0 8
                  exact ⟨by grind, by grind⟩
                have hX49 : IV A B X49 := by rw [e56]; exact hX47.u1 rfl (a4) p57
                exact ok_some ⟨hX49, trivial⟩
              · refine ok_ite (fun q59 => ?_) (fun q59 => ?_)
                · refine ok_b1 (s_X1_nextInput X hX i0 i3 (a3)) (fun X52 v51 w60 => ?_)
                  have hX52 : IV A B X52 := w60.1
                  refine ok_b1 (s_X1_replace X52 hX52 i0 (0 : Int32) ⟨by decide, by decide⟩ v51 (a1) (fun p => a5 p)) (fun X55 v54 w61 => ?_)
                  have hX55 : IV A B X55 := w61.1
                  refine ok_lq (fun X57 e62 => ?_)
                  have p63 : (0 : Int32) ≤ v5 ∧ v5 ≤ (24 : Int32) := by
                    have c64 : (0 : Int32) ≤ (X.1 16 i0 8) ∧ (X.1 16 i0 8) ≤ (24 : Int32) := hX.at1 16 i0 8
                    exact ⟨by grind, by grind⟩
                  have hX57 : IV A B X57 := by rw [e62]; exact hX55.u1 rfl (a4) p63
                  exact ok_some ⟨hX57, trivial⟩
                · refine ok_ite (fun q65 => ?_) (fun q65 => ?_)
                  · refine ok_b1 (s_X1_replace X hX i0 (0 : Int32) ⟨by decide, by decide⟩ p1 (a1) (fun p => a5 p)) (fun X60 v59 w66 => ?_)
                    have hX60 : IV A B X60 := w66.1
                    refine ok_lq (fun X62 e67 => ?_)
                    have p68 : (0 : Int32) ≤ v5 ∧ v5 ≤ (24 : Int32) := by
                      have c69 : (0 : Int32) ≤ (X.1 16 i0 8) ∧ (X.1 16 i0 8) ≤ (24 : Int32) := hX.at1 16 i0 8
                      exact ⟨by grind, by grind⟩
                    have hX62 : IV A B X62 := by rw [e67]; exact hX60.u1 rfl (a4) p68
                    exact ok_some ⟨hX62, trivial⟩
                  · refine ok_ite (fun q70 => ?_) (fun q70 => ?_)
                    · refine ok_b1 (s_X1_pop X hX i0 (a1)) (fun X65 v64 w71 => ?_)
                      have hX65 : IV A B X65 := w71.1
                      refine ok_b1 (s_X1_write X65 hX65 i0 v1 (a2) (fun p => a6 p)) (fun X68 v67 w72 => ?_)
                      have hX68 : IV A B X68 := w72.1
                      refine ok_lq (fun X70 e73 => ?_)
                      have p74 : (0 : Int32) ≤ v5 ∧ v5 ≤ (24 : Int32) := by
                        have c75 : (0 : Int32) ≤ (X.1 16 i0 8) ∧ (X.1 16 i0 8) ≤ (24 : Int32) := hX.at1 16 i0 8
                        exact ⟨by grind, by grind⟩
                      have hX70 : IV A B X70 := by rw [e73]; exact hX68.u1 rfl (a4) p74
                      exact ok_some ⟨hX70, trivial⟩
                    · refine ok_ite (fun q76 => ?_) (fun q76 => ?_)
                      · refine ok_b1 (s_X1_pop X hX i0 (a1)) (fun X73 v72 w77 => ?_)
                        have hX73 : IV A B X73 := w77.1
                        refine ok_lq (fun X75 e78 => ?_)
                        have p79 : (0 : Int32) ≤ v5 ∧ v5 ≤ (24 : Int32) := by
                          have c80 : (0 : Int32) ≤ (X.1 16 i0 8) ∧ (X.1 16 i0 8) ≤ (24 : Int32) := hX.at1 16 i0 8
                          exact ⟨by grind, by grind⟩
                        have hX75 : IV A B X75 := by rw [e78]; exact hX73.u1 rfl (a4) p79
                        exact ok_some ⟨hX75, trivial⟩
                      · refine ok_ite (fun q81 => ?_) (fun q81 => ?_)
                        · refine ok_b1 (s_X1_replace X hX i0 (2 : Int32) ⟨by decide, by decide⟩ v1 (a1) (fun p => a5 p)) (fun X78 v77 w82 => ?_)
                          have hX78 : IV A B X78 := w82.1
                          refine ok_b1 (s_X1_replace X78 hX78 i0 (0 : Int32) ⟨by decide, by decide⟩ v3 (a1) (fun p => a5 p)) (fun X81 v80 w83 => ?_)
                          have hX81 : IV A B X81 := w83.1
                          refine ok_lq (fun X83 e84 => ?_)
                          have p85 : (0 : Int32) ≤ v5 ∧ v5 ≤ (24 : Int32) := by
                            have c86 : (0 : Int32) ≤ (X.1 16 i0 8) ∧ (X.1 16 i0 8) ≤ (24 : Int32) := hX.at1 16 i0 8
                            exact ⟨by grind, by grind⟩
                          have hX83 : IV A B X83 := by rw [e84]; exact hX81.u1 rfl (a4) p85
                          exact ok_some ⟨hX83, trivial⟩
                        · refine ok_lq (fun X84 e87 => ?_)
                          have p88 : (0 : Int32) ≤ v5 ∧ v5 ≤ (24 : Int32) := by
                            have c89 : (0 : Int32) ≤ (X.1 16 i0 8) ∧ (X.1 16 i0 8) ≤ (24 : Int32) := hX.at1 16 i0 8
                            exact ⟨by grind, by grind⟩
                          have hX84 : IV A B X84 := by rw [e87]; exact hX.u1 rfl (a4) p88
                          exact ok_some ⟨hX84, trivial⟩
theorem s_X1_isAsExpected_L15 {A : Nat → Nat → Nat → Prop} {B : SS} (X : SS) (hX : IV A B X) (i0 : Nat) (i1 : Nat) : ∀ (n : Nat), ∀ (v3 : Int32) (k2 : (Unit → Option (Int32))), (FU v3 6 n) → ((0 : Int32) ≤ v3 ∧ v3 ≤ (6 : Int32)) → (∀ (k_0 : Unit), ok (k2 k_0) (fun r => (0 : Int32) ≤ r ∧ r ≤ (1 : Int32))) → ok (f_X1_isAsExpected_L15 X i0 i1 n v3 k2) (fun r => (0 : Int32) ≤ r ∧ r ≤ (1 : Int32)) := by
  intro n
  induction n with
  | zero =>
    intro v3 k2 hF iv3 hk
    exact (FU.stop hF (show v3 ≤ (6 : Int32) by grind)).elim
  | succ n ih =>
    intro v3 k2 hF iv3 hk
    rw [f_X1_isAsExpected_L15]
    refine ok_ite (fun q1 => ?_) (fun q1 => ?_)
    · exact hk ()
    · refine ok_gd ?_ (fun g2 => ?_)
      · have c3 : (0 : Int32) ≤ (X.1 16 i0 5) ∧ (X.1 16 i0 5) ≤ (6 : Int32) := hX.at1 16 i0 5
        exact vp_of (by decide) (by grind) (show v3 < (6 : Int32) by grind)
      have g2 := vp_to (by decide) g2
      have g2 : (0 : Int32) ≤ v3 ∧ v3 < (6 : Int32) := g2
      refine ok_gd ?_ (fun g4 => ?_)
      · have c5 : (0 : Int32) ≤ (X.1 16 i0 5) ∧ (X.1 16 i0 5) ≤ (6 : Int32) := hX.at1 16 i0 5
        exact vp_of (by decide) (by grind) (show v3 < (6 : Int32) by grind)
      have g4 := vp_to (by decide) g4
      have g4 : (0 : Int32) ≤ v3 ∧ v3 < (6 : Int32) := g4
      refine ok_ite (fun q6 => ?_) (fun q6 => ?_)
      · have p7 : FU (v3 + (1 : Int32)) 6 _ := by
          have c8 : (0 : Int32) ≤ (X.1 16 i0 5) ∧ (X.1 16 i0 5) ≤ (6 : Int32) := hX.at1 16 i0 5
          exact FU.step hF (by grind)
        have p9 : (0 : Int32) ≤ (v3 + (1 : Int32)) ∧ (v3 + (1 : Int32)) ≤ (6 : Int32) := by
          have c10 : (0 : Int32) ≤ (X.1 16 i0 5) ∧ (X.1 16 i0 5) ≤ (6 : Int32) := hX.at1 16 i0 5
          exact ⟨by grind, by grind⟩
        exact ih (v3 + (1 : Int32)) k2 p7 p9 hk
      · have p11 : (0 : Int32) ≤ (0 : Int32) ∧ (0 : Int32) ≤ (1 : Int32) := by
          exact ⟨by grind, by grind⟩
        exact ok_some p11
theorem s_X1_isAsExpected {A : Nat → Nat → Nat → Prop} {B : SS} (X : SS) (hX : IV A B X) (i0 : Nat) (i1 : Nat) : ok (f_X1_isAsExpected X i0 i1) (fun r => (0 : Int32) ≤ r ∧ r ≤ (1 : Int32)) := by
  unfold f_X1_isAsExpected
  refine ok_ite (fun q1 => ?_) (fun q1 => ?_)
  · have p2 : FU (0 : Int32) 6 1000 := by
      exact FU.start (by grind) (by decide)
    refine s_X1_isAsExpected_L15 X hX i0 i1 1000 (0 : Int32) _ p2 ⟨by decide, by decide⟩ (fun _ => ?_)
    have p3 : (0 : Int32) ≤ (1 : Int32) ∧ (1 : Int32) ≤ (1 : Int32) := by
      exact ⟨by grind, by grind⟩
    exact ok_some p3
  · have p4 : (0 : Int32) ≤ (0 : Int32) ∧ (0 : Int32) ≤ (1 : Int32) := by
      exact ⟨by grind, by grind⟩
    exact ok_some p4
theorem s_X1_execute_L32 {A : Nat → Nat → Nat → Prop} {B : SS} (i1 : Nat) (i0 : Nat) (i2 : Nat) (a1 : A 16 i0 4) (a2 : A 16 i0 5) (a3 : A 16 i0 6) (a4 : A 16 i0 7) (a5 : A 16 i0 8) (a6 : ∀ p, A 17 i0 p) (a7 : ∀ p, A 18 i0 p) : ∀ (n : Nat), ∀ (v11 : Int32) (X12 : SS) (k9 : (SS → Option (SS × Int32))), (FU v11 301 n) → ((0 : Int32) ≤ v11 ∧ v11 ≤ (301 : Int32)) → (IV A B X12) → (∀ (k_0 : SS), (IV A B k_0) → ok (k9 k_0) (fun r => IV A B r.1 ∧ (33 : Int32) ≤ r.2 ∧ r.2 ≤ (122 : Int32))) → ok (f_X1_execute_L32 i1 i0 i2 n v11 X12 k9) (fun r => IV A B r.1 ∧ (33 : Int32) ≤ r.2 ∧ r.2 ≤ (122 : Int32)) := by
  intro n
  induction n with
  | zero =>
    intro v11 X12 k9 hF iv11 hX12 hk
    exact (FU.stop hF (show v11 ≤ (301 : Int32) by grind)).elim
  | succ n ih =>
    intro v11 X12 k9 hF iv11 hX12 hk
    rw [f_X1_execute_L32]
    refine ok_ite (fun q1 => ?_) (fun q1 => ?_)
    · exact hk X12 hX12
    · refine ok_ite (fun q2 => ?_) (fun q2 => ?_)
      · exact hk X12 hX12
      · refine ok_gd ?_ (fun g3 => ?_)
        · have c4 : (0 : Int32) ≤ (X12.1 16 i0 8) ∧ (X12.1 16 i0 8) ≤ (24 : Int32) := hX12.at1 16 i0 8
          have c5 : (0 : Int32) ≤ (X12.1 1 i1 2) ∧ (X12.1 1 i1 2) ≤ (24 : Int32) := hX12.at1 1 i1 2
          exact vp_of (by decide) (by grind) (show (X12.1 16 i0 8) < (24 : Int32) by grind)
        have g3 := vp_to (by decide) g3
        have g3 : (0 : Int32) ≤ (X12.1 16 i0 8) ∧ (X12.1 16 i0 8) < (24 : Int32) := g3
        refine ok_lq (fun v19 e6 => ?_)
        have p7 : (0 : Int32) ≤ v19 ∧ v19 ≤ (65535 : Int32) := by
          have c8 : (0 : Int32) ≤ (X12.1 2 i1 ((X12.1 16 i0 8)).toNatClampNeg) ∧ (X12.1 2 i1 ((X12.1 16 i0 8)).toNatClampNeg) ≤ (65535 : Int32) := hX12.at1 2 i1 (((X12.1 16 i0 8)).toNatClampNeg)
          have c9 : (0 : Int32) ≤ (X12.1 16 i0 8) ∧ (X12.1 16 i0 8) ≤ (24 : Int32) := hX12.at1 16 i0 8
          have c10 : (0 : Int32) ≤ (X12.1 1 i1 2) ∧ (X12.1 1 i1 2) ≤ (24 : Int32) := hX12.at1 1 i1 2
          exact ⟨by grind, by grind⟩
        refine ok_b0 (s_X1_errorOf X12 hX12 i0 v19 p7 i2) (fun v20 w11 => ?_)
        have w12 : (32 : Int32) ≤ v20 ∧ v20 ≤ (122 : Int32) := w11
        refine ok_ite (fun q13 => ?_) (fun q13 => ?_)
        · refine ok_gd ?_ (fun g14 => ?_)
          · have c15 : (0 : Int32) ≤ (X12.1 16 i0 8) ∧ (X12.1 16 i0 8) ≤ (24 : Int32) := hX12.at1 16 i0 8
            have c16 : (0 : Int32) ≤ (X12.1 1 i1 2) ∧ (X12.1 1 i1 2) ≤ (24 : Int32) := hX12.at1 1 i1 2
            exact vp_of (by decide) (by grind) (show (X12.1 16 i0 8) < (24 : Int32) by grind)
          have g14 := vp_to (by decide) g14
          have g14 : (0 : Int32) ≤ (X12.1 16 i0 8) ∧ (X12.1 16 i0 8) < (24 : Int32) := g14
          have p17 : (0 : Int32) ≤ v19 ∧ v19 ≤ (65535 : Int32) := by
            have c18 : (0 : Int32) ≤ (X12.1 2 i1 ((X12.1 16 i0 8)).toNatClampNeg) ∧ (X12.1 2 i1 ((X12.1 16 i0 8)).toNatClampNeg) ≤ (65535 : Int32) := hX12.at1 2 i1 (((X12.1 16 i0 8)).toNatClampNeg)
            have c19 : (0 : Int32) ≤ (X12.1 16 i0 8) ∧ (X12.1 16 i0 8) ≤ (24 : Int32) := hX12.at1 16 i0 8
            have c20 : (0 : Int32) ≤ (X12.1 1 i1 2) ∧ (X12.1 1 i1 2) ≤ (24 : Int32) := hX12.at1 1 i1 2
            exact ⟨by grind, by grind⟩
          have p21 : (X12.1 16 i0 8) < (24 : Int32) := by
            have c22 : (0 : Int32) ≤ (X12.1 16 i0 8) ∧ (X12.1 16 i0 8) ≤ (24 : Int32) := hX12.at1 16 i0 8
            have c23 : (0 : Int32) ≤ (X12.1 1 i1 2) ∧ (X12.1 1 i1 2) ≤ (24 : Int32) := hX12.at1 1 i1 2
            grind
          refine ok_b1 (s_X1_perform X12 hX12 i0 v19 p17 (X12.1 3 i1 ((X12.1 16 i0 8)).toNatClampNeg) i2 p21 (a1) (a2) (a4) (a5) (fun p => a6 p) (fun p => a7 p)) (fun X25 v24 w24 => ?_)
          have hX25 : IV A B X25 := w24.1
          refine ok_lq (fun X27 e25 => ?_)
          have hX27 : IV A B X27 := by rw [e25]; exact hX25.u1f rfl (a3) rfl
          have p26 : FU (v11 + (1 : Int32)) 301 _ := by
            exact FU.step hF (by grind)
          have p27 : (0 : Int32) ≤ (v11 + (1 : Int32)) ∧ (v11 + (1 : Int32)) ≤ (301 : Int32) := by
            exact ⟨by grind, by grind⟩
          exact ih (v11 + (1 : Int32)) X27 k9 p26 p27 hX27 hk
        · refine ok_gd ?_ (fun g28 => ?_)
          · exact okc_of (by grind) (by grind)
          have p29 : (33 : Int32) ≤ v20 ∧ v20 ≤ (122 : Int32) := by
            exact ⟨by grind, by grind⟩
          exact ok_some ⟨hX12, p29⟩
theorem s_X1_execute {A : Nat → Nat → Nat → Prop} {B : SS} (X : SS) (hX : IV A B X) (i0 : Nat) (i1 : Nat) (i2 : Nat) (a1 : A 16 i0 4) (a2 : A 16 i0 5) (a3 : A 16 i0 6) (a4 : A 16 i0 7) (a5 : A 16 i0 8) (a6 : ∀ p, A 17 i0 p) (a7 : ∀ p, A 18 i0 p) (a8 : ∀ p, A 19 i0 p) (a9 : ∀ p, A 20 i0 p) : ok (f_X1_execute X i0 i1 i2) (fun r => IV A B r.1 ∧ (33 : Int32) ≤ r.2 ∧ r.2 ≤ (122 : Int32)) := by
  unfold f_X1_execute
  refine ok_b1 (s_X1_pairBrackets X hX i0 i1 (fun p => a8 p) (fun p => a9 p)) (fun X2 v1 w1 => ?_)
  have hX2 : IV A B X2 := w1.1
  refine ok_lq (fun X4 e2 => ?_)
  have hX4 : IV A B X4 := by rw [e2]; exact hX2.u1 rfl (a1) ⟨by decide, by decide⟩
  refine ok_lq (fun X5 e3 => ?_)
  have hX5 : IV A B X5 := by rw [e3]; exact hX4.u1 rfl (a2) ⟨by decide, by decide⟩
  refine ok_lq (fun X6 e4 => ?_)
  have hX6 : IV A B X6 := by rw [e4]; exact hX5.u1f rfl (a3) rfl
  refine ok_lq (fun X7 e5 => ?_)
  have hX7 : IV A B X7 := by rw [e5]; exact hX6.u1 rfl (a4) ⟨by decide, by decide⟩
  refine ok_lq (fun X8 e6 => ?_)
  have hX8 : IV A B X8 := by rw [e6]; exact hX7.u1 rfl (a5) ⟨by decide, by decide⟩
  have p7 : FU (0 : Int32) 301 1000 := by
    exact FU.start (by grind) (by decide)
  refine s_X1_execute_L32 i1 i0 i2 (a1) (a2) (a3) (a4) (a5) (fun p => a6 p) (fun p => a7 p) 1000 (0 : Int32) X8 _ p7 ⟨by decide, by decide⟩ hX8 (fun X10 hX10 => ?_)
  refine ok_b0 (s_X1_isAsExpected X10 hX10 i0 i2) (fun v13 w8 => ?_)
  have w9 : (0 : Int32) ≤ v13 ∧ v13 ≤ (1 : Int32) := w8
  refine ok_ite (fun q10 => ?_) (fun q10 => ?_)
  · have p11 : (33 : Int32) ≤ (119 : Int32) ∧ (119 : Int32) ≤ (122 : Int32) := by
      exact ⟨by grind, by grind⟩
    exact ok_some ⟨hX10, p11⟩
  · have p12 : (33 : Int32) ≤ (111 : Int32) ∧ (111 : Int32) ≤ (122 : Int32) := by
      exact ⟨by grind, by grind⟩
    exact ok_some ⟨hX10, p12⟩
theorem s_X2_placeOfCopy_L2 {A : Nat → Nat → Nat → Prop} {B : SS} (X : SS) (hX : IV A B X) (i0 : Nat) (p0 : Int32) : ∀ (n : Nat), ∀ (v2 : Int32) (k1 : (Unit → Option (Int32))), (FU v2 3 n) → ((0 : Int32) ≤ v2 ∧ v2 ≤ (3 : Int32)) → (∀ (k_0 : Unit), ok (k1 k_0) (fun r => ((-1) : Int32) ≤ r ∧ r ≤ (2 : Int32) ∧ (r = (-1) ∨ r < (X.1 9 i0 2)))) → ok (f_X2_placeOfCopy_L2 X i0 p0 n v2 k1) (fun r => ((-1) : Int32) ≤ r ∧ r ≤ (2 : Int32) ∧ (r = (-1) ∨ r < (X.1 9 i0 2))) := by
  intro n
  induction n with
  | zero =>
    intro v2 k1 hF iv2 hk
    exact (FU.stop hF (show v2 ≤ (3 : Int32) by grind)).elim
  | succ n ih =>
    intro v2 k1 hF iv2 hk
    rw [f_X2_placeOfCopy_L2]
    refine ok_ite (fun q1 => ?_) (fun q1 => ?_)
    · exact hk ()
    · refine ok_gd ?_ (fun g2 => ?_)
      · have c3 : (0 : Int32) ≤ (X.1 9 i0 2) ∧ (X.1 9 i0 2) ≤ (3 : Int32) := hX.at1 9 i0 2
        exact vp_of (by decide) (by grind) (show v2 < (3 : Int32) by grind)
      have g2 := vp_to (by decide) g2
      have g2 : (0 : Int32) ≤ v2 ∧ v2 < (3 : Int32) := g2
      refine ok_ite (fun q4 => ?_) (fun q4 => ?_)
      · have p5 : ((-1) : Int32) ≤ v2 ∧ v2 ≤ (2 : Int32) ∧ (v2 = (-1) ∨ v2 < (X.1 9 i0 2)) := by
          have c6 : (0 : Int32) ≤ (X.1 9 i0 2) ∧ (X.1 9 i0 2) ≤ (3 : Int32) := hX.at1 9 i0 2
          grind
        exact ok_some p5
      · have p7 : FU (v2 + (1 : Int32)) 3 _ := by
          have c8 : (0 : Int32) ≤ (X.1 9 i0 2) ∧ (X.1 9 i0 2) ≤ (3 : Int32) := hX.at1 9 i0 2
          exact FU.step hF (by grind)
        have p9 : (0 : Int32) ≤ (v2 + (1 : Int32)) ∧ (v2 + (1 : Int32)) ≤ (3 : Int32) := by
          have c10 : (0 : Int32) ≤ (X.1 9 i0 2) ∧ (X.1 9 i0 2) ≤ (3 : Int32) := hX.at1 9 i0 2
          exact ⟨by grind, by grind⟩
        exact ih (v2 + (1 : Int32)) k1 p7 p9 hk
theorem s_X2_placeOfCopy {A : Nat → Nat → Nat → Prop} {B : SS} (X : SS) (hX : IV A B X) (i0 : Nat) (p0 : Int32) : ok (f_X2_placeOfCopy X i0 p0) (fun r => ((-1) : Int32) ≤ r ∧ r ≤ (2 : Int32) ∧ (r = (-1) ∨ r < (X.1 9 i0 2))) := by
  unfold f_X2_placeOfCopy
  have p1 : FU (0 : Int32) 3 1000 := by
    exact FU.start (by grind) (by decide)
  refine s_X2_placeOfCopy_L2 X hX i0 p0 1000 (0 : Int32) _ p1 ⟨by decide, by decide⟩ (fun _ => ?_)
  have p2 : ((-1) : Int32) ≤ ((-1) : Int32) ∧ ((-1) : Int32) ≤ (2 : Int32) ∧ (((-1) : Int32) = (-1) ∨ ((-1) : Int32) < (X.1 9 i0 2)) := by
    have c3 : (0 : Int32) ≤ (X.1 9 i0 2) ∧ (X.1 9 i0 2) ≤ (3 : Int32) := hX.at1 9 i0 2
    grind
  exact ok_some p2
theorem s_X3_take_L10 {A : Nat → Nat → Nat → Prop} {B : SS} (i0 : Nat) (i1 : Nat) (a1 : ∀ p, A 2 i0 p) (a2 : ∀ p, A 3 i0 p) : ∀ (n : Nat), ∀ (v4 : Int32) (X5 : SS) (k2 : (SS → Option (SS × Unit))), (FU v4 24 n) → ((0 : Int32) ≤ v4 ∧ v4 ≤ (24 : Int32)) → (IV A B X5) → (∀ (k_0 : SS), (IV A B k_0) → ok (k2 k_0) (fun r => IV A B r.1 ∧ True)) → ok (f_X3_take_L10 i0 i1 n v4 X5 k2) (fun r => IV A B r.1 ∧ True) := by
  intro n
  induction n with
  | zero =>
    intro v4 X5 k2 hF iv4 hX5 hk
    exact (FU.stop hF (show v4 ≤ (24 : Int32) by grind)).elim
  | succ n ih =>
    intro v4 X5 k2 hF iv4 hX5 hk
    rw [f_X3_take_L10]
    refine ok_ite (fun q1 => ?_) (fun q1 => ?_)
    · exact hk X5 hX5
    · refine ok_gd ?_ (fun g2 => ?_)
      · have c3 : (0 : Int32) ≤ (X5.1 1 i0 2) ∧ (X5.1 1 i0 2) ≤ (24 : Int32) := hX5.at1 1 i0 2
        exact vp_of (by decide) (by grind) (show v4 < (24 : Int32) by grind)
      have g2 := vp_to (by decide) g2
      have g2 : (0 : Int32) ≤ v4 ∧ v4 < (24 : Int32) := g2
      refine ok_gd ?_ (fun g4 => ?_)
      · have c5 : (0 : Int32) ≤ (X5.1 1 i0 2) ∧ (X5.1 1 i0 2) ≤ (24 : Int32) := hX5.at1 1 i0 2
        exact vp_of (by decide) (by grind) (show v4 < (24 : Int32) by grind)
      have g4 := vp_to (by decide) g4
      have g4 : (0 : Int32) ≤ v4 ∧ v4 < (24 : Int32) := g4
      refine ok_lq (fun X9 e6 => ?_)
      have p7 : (0 : Int32) ≤ (vp_nar .char (X5.1 2 i1 (v4).toNatClampNeg)) ∧ (vp_nar .char (X5.1 2 i1 (v4).toNatClampNeg)) ≤ (65535 : Int32) := by
        have c8 : (0 : Int32) ≤ (vp_nar .char (X5.1 2 i1 (v4).toNatClampNeg)) ∧ (vp_nar .char (X5.1 2 i1 (v4).toNatClampNeg)) ≤ (65535 : Int32) := nar_c _
        have c9 : (0 : Int32) ≤ (X5.1 2 i1 (v4).toNatClampNeg) ∧ (X5.1 2 i1 (v4).toNatClampNeg) ≤ (65535 : Int32) := hX5.at1 2 i1 ((v4).toNatClampNeg)
        have c10 : (0 : Int32) ≤ (X5.1 1 i0 2) ∧ (X5.1 1 i0 2) ≤ (24 : Int32) := hX5.at1 1 i0 2
        exact ⟨by grind, by grind⟩
      have hX9 : IV A B X9 := by rw [e6]; exact hX5.u1 rfl (a1 ((v4).toNatClampNeg)) p7
      refine ok_gd ?_ (fun g11 => ?_)
      · have c12 : (0 : Int32) ≤ (X5.1 1 i0 2) ∧ (X5.1 1 i0 2) ≤ (24 : Int32) := hX5.at1 1 i0 2
        exact vp_of (by decide) (by grind) (show v4 < (24 : Int32) by grind)
      have g11 := vp_to (by decide) g11
      have g11 : (0 : Int32) ≤ v4 ∧ v4 < (24 : Int32) := g11
      refine ok_gd ?_ (fun g13 => ?_)
      · have c14 : (0 : Int32) ≤ (X5.1 1 i0 2) ∧ (X5.1 1 i0 2) ≤ (24 : Int32) := hX5.at1 1 i0 2
        exact vp_of (by decide) (by grind) (show v4 < (24 : Int32) by grind)
      have g13 := vp_to (by decide) g13
      have g13 : (0 : Int32) ≤ v4 ∧ v4 < (24 : Int32) := g13
      refine ok_lq (fun X12 e15 => ?_)
      have hX12 : IV A B X12 := by rw [e15]; exact hX9.u1f rfl (a2 ((v4).toNatClampNeg)) rfl
      have p16 : FU (v4 + (1 : Int32)) 24 _ := by
        have c17 : (0 : Int32) ≤ (X5.1 1 i0 2) ∧ (X5.1 1 i0 2) ≤ (24 : Int32) := hX5.at1 1 i0 2
        exact FU.step hF (by grind)
      have p18 : (0 : Int32) ≤ (v4 + (1 : Int32)) ∧ (v4 + (1 : Int32)) ≤ (24 : Int32) := by
        have c19 : (0 : Int32) ≤ (X5.1 1 i0 2) ∧ (X5.1 1 i0 2) ≤ (24 : Int32) := hX5.at1 1 i0 2
        exact ⟨by grind, by grind⟩
      exact ih (v4 + (1 : Int32)) X12 k2 p16 p18 hX12 hk
theorem s_X3_take {A : Nat → Nat → Nat → Prop} {B : SS} (X : SS) (hX : IV A B X) (i0 : Nat) (i1 : Nat) (a1 : A 1 i0 2) (a2 : ∀ p, A 2 i0 p) (a3 : ∀ p, A 3 i0 p) : ok (f_X3_take X i0 i1) (fun r => IV A B r.1 ∧ True) := by
  unfold f_X3_take
  refine ok_lq (fun X1 e1 => ?_)
  have p2 : (0 : Int32) ≤ (X.1 1 i1 2) ∧ (X.1 1 i1 2) ≤ (24 : Int32) := by
    have c3 : (0 : Int32) ≤ (X.1 1 i1 2) ∧ (X.1 1 i1 2) ≤ (24 : Int32) := hX.at1 1 i1 2
    exact ⟨by grind, by grind⟩
  have hX1 : IV A B X1 := by rw [e1]; exact hX.u1 rfl (a1) p2
  have p4 : FU (0 : Int32) 24 1000 := by
    exact FU.start (by grind) (by decide)
  refine s_X3_take_L10 i0 i1 (fun p => a2 p) (fun p => a3 p) 1000 (0 : Int32) X1 _ p4 ⟨by decide, by decide⟩ hX1 (fun X3 hX3 => ?_)
  exact ok_some ⟨hX3, trivial⟩
theorem s_X2_keepCopy_L52 {A : Nat → Nat → Nat → Prop} {B : SS} (i0 : Nat) (ni0 : i0 < 10) (a1 : ∀ p, A 11 i0 p) (a2 : ∀ p, A 210 i0 p) : ∀ (n : Nat), ∀ (v12 : Int32) (X13 : SS) (k10 : (SS → Option (SS × Unit))), (FU v12 2 n) → ((0 : Int32) ≤ v12 ∧ v12 ≤ (2 : Int32)) → (IV A B X13) → ((1 : Int32) ≤ (X13.1 9 i0 2)) → (∀ (k_0 : SS), (IV A B k_0) → ((1 : Int32) ≤ (k_0.1 9 i0 2)) → ok (k10 k_0) (fun r => IV A B r.1 ∧ True)) → ok (f_X2_keepCopy_L52 i0 n v12 X13 k10) (fun r => IV A B r.1 ∧ True) := by
  intro n
  induction n with
  | zero =>
    intro v12 X13 k10 hF iv12 hX13 x0 hk
    exact (FU.stop hF (show v12 ≤ (2 : Int32) by grind)).elim
  | succ n ih =>
    intro v12 X13 k10 hF iv12 hX13 x0 hk
    rw [f_X2_keepCopy_L52]
    refine ok_ite (fun q1 => ?_) (fun q1 => ?_)
    · have p2 : (1 : Int32) ≤ (X13.1 9 i0 2) := by
        have c3 : (0 : Int32) ≤ (X13.1 9 i0 2) ∧ (X13.1 9 i0 2) ≤ (3 : Int32) := hX13.at1 9 i0 2
        grind
      exact hk X13 hX13 p2
    · refine ok_gd ?_ (fun g4 => ?_)
      · have c5 : (0 : Int32) ≤ (X13.1 9 i0 2) ∧ (X13.1 9 i0 2) ≤ (3 : Int32) := hX13.at1 9 i0 2
        exact vp_of (by decide) (by grind) (show (v12 + (1 : Int32)) < (3 : Int32) by grind)
      have g4 := vp_to (by decide) g4
      have g4 : (0 : Int32) ≤ (v12 + (1 : Int32)) ∧ (v12 + (1 : Int32)) < (3 : Int32) := g4
      refine ok_gd ?_ (fun g6 => ?_)
      · exact (hX13.at3 ni0 (cl_lt (n := 3) (by assumption))).2
      refine ok_gd ?_ (fun g7 => ?_)
      · have c8 : (0 : Int32) ≤ (X13.1 9 i0 2) ∧ (X13.1 9 i0 2) ≤ (3 : Int32) := hX13.at1 9 i0 2
        exact vp_of (by decide) (by grind) (show v12 < (3 : Int32) by grind)
      have g7 := vp_to (by decide) g7
      have g7 : (0 : Int32) ≤ v12 ∧ v12 < (3 : Int32) := g7
      refine ok_lq (fun X26 e9 => ?_)
      have hX26 : IV A B X26 := by rw [e9]; exact hX13.u3 (a2 ((v12).toNatClampNeg)) (hX13.at3 ni0 (cl_lt (n := 3) (by assumption)))
      refine ok_gd ?_ (fun g10 => ?_)
      · have c11 : (0 : Int32) ≤ (X13.1 9 i0 2) ∧ (X13.1 9 i0 2) ≤ (3 : Int32) := hX13.at1 9 i0 2
        exact vp_of (by decide) (by grind) (show (v12 + (1 : Int32)) < (3 : Int32) by grind)
      have g10 := vp_to (by decide) g10
      have g10 : (0 : Int32) ≤ (v12 + (1 : Int32)) ∧ (v12 + (1 : Int32)) < (3 : Int32) := g10
      refine ok_gd ?_ (fun g12 => ?_)
      · have c13 : (0 : Int32) ≤ (X13.1 9 i0 2) ∧ (X13.1 9 i0 2) ≤ (3 : Int32) := hX13.at1 9 i0 2
        exact vp_of (by decide) (by grind) (show v12 < (3 : Int32) by grind)
      have g12 := vp_to (by decide) g12
      have g12 : (0 : Int32) ≤ v12 ∧ v12 < (3 : Int32) := g12
      refine ok_lq (fun X29 e14 => ?_)
      have hX29 : IV A B X29 := by rw [e14]; exact hX26.u1f rfl (a1 ((v12).toNatClampNeg)) rfl
      have p15 : FU (v12 + (1 : Int32)) 2 _ := by
        have c16 : (0 : Int32) ≤ (X13.1 9 i0 2) ∧ (X13.1 9 i0 2) ≤ (3 : Int32) := hX13.at1 9 i0 2
        exact FU.step hF (by grind)
      have p17 : (0 : Int32) ≤ (v12 + (1 : Int32)) ∧ (v12 + (1 : Int32)) ≤ (2 : Int32) := by
        have c18 : (0 : Int32) ≤ (X13.1 9 i0 2) ∧ (X13.1 9 i0 2) ≤ (3 : Int32) := hX13.at1 9 i0 2
        exact ⟨by grind, by grind⟩
      have p19 : (1 : Int32) ≤ (X29.1 9 i0 2) := by
        have c20 : (0 : Int32) ≤ (X29.1 9 i0 2) ∧ (X29.1 9 i0 2) ≤ (3 : Int32) := hX29.at1 9 i0 2
        have c21 : (X29.1 9 i0 2) = (X26.1 9 i0 2) := by rw [e14]; exact up_k (by decide)
        have c22 : (0 : Int32) ≤ (X13.1 9 i0 2) ∧ (X13.1 9 i0 2) ≤ (3 : Int32) := hX13.at1 9 i0 2
        have c23 : (0 : Int32) ≤ (X26.1 9 i0 2) ∧ (X26.1 9 i0 2) ≤ (3 : Int32) := hX26.at1 9 i0 2
        have c24 : (X26.1 9 i0 2) = (X13.1 9 i0 2) := by rw [e9]; rfl
        grind
      exact ih (v12 + (1 : Int32)) X29 k10 p15 p17 hX29 p19 hk
theorem s_X2_keepCopy {A : Nat → Nat → Nat → Prop} {B : SS} (X : SS) (hX : IV A B X) (i0 : Nat) (ni0 : i0 < 10) (p0 : Int32) (i2 : Nat) (a1 : ∀ j, 1 ≤ j → A 1 j 2) (a2 : ∀ p, A 11 i0 p) (a3 : ∀ j p, 1 ≤ j → A 2 j p) (a4 : ∀ p, A 210 i0 p) (a5 : ∀ j p, 1 ≤ j → A 3 j p) (a6 : A 9 i0 2) : ok (f_X2_keepCopy X i0 p0 i2) (fun r => IV A B r.1 ∧ True) := by
  unfold f_X2_keepCopy
  refine ok_b0 (s_X2_placeOfCopy X hX i0 p0) (fun v1 w1 => ?_)
  have w2 : ((-1) : Int32) ≤ v1 ∧ v1 ≤ (2 : Int32) ∧ (v1 = (-1) ∨ v1 < (X.1 9 i0 2)) := w1
  refine ok_ite (fun q3 => ?_) (fun q3 => ?_)
  · refine ok_ite (fun q4 => ?_) (fun q4 => ?_)
    · unfold f_X2_keepCopy_J34
      refine ok_ite (fun q5 => ?_) (fun q5 => ?_)
      · unfold f_X2_keepCopy_J41
        refine ok_gd ?_ (fun g6 => ?_)
        · exact vp_of (by decide) (by grind) (show (0 : Int32) < (3 : Int32) by grind)
        have g6 := vp_to (by decide) g6
        have g6 : (0 : Int32) ≤ (0 : Int32) ∧ (0 : Int32) < (3 : Int32) := g6
        refine ok_gd ?_ (fun g7 => ?_)
        · exact (hX.at3 ni0 (cl_lt (n := 3) (by assumption))).2
        have p8 : FU (0 : Int32) 2 1000 := by
          exact FU.start (by grind) (by decide)
        have p9 : (1 : Int32) ≤ (X.1 9 i0 2) := by
          have c10 : (0 : Int32) ≤ (X.1 9 i0 2) ∧ (X.1 9 i0 2) ≤ (3 : Int32) := hX.at1 9 i0 2
          grind
        refine s_X2_keepCopy_L52 i0 ni0 (fun p => a2 p) (fun p => a4 p) 1000 (0 : Int32) X _ p8 ⟨by decide, by decide⟩ hX p9 (fun X11 hX11 ek => ?_)
        have e11 : (1 : Int32) ≤ (X11.1 9 i0 2) := ek
        refine ok_lq (fun v14 e12 => ?_)
        refine ok_gd ?_ (fun g13 => ?_)
        · have c14 : (0 : Int32) ≤ (X11.1 9 i0 2) ∧ (X11.1 9 i0 2) ≤ (3 : Int32) := hX11.at1 9 i0 2
          have c15 : (0 : Int32) ≤ (X.1 9 i0 2) ∧ (X.1 9 i0 2) ≤ (3 : Int32) := hX.at1 9 i0 2
          exact vp_of (by decide) (by grind) (show v14 < (3 : Int32) by grind)
        have g13 := vp_to (by decide) g13
        have g13 : (0 : Int32) ≤ v14 ∧ v14 < (3 : Int32) := g13
        refine ok_lq (fun X16 e16 => ?_)
        have hX16 : IV A B X16 := by rw [e16]; exact hX11.u3 (a4 ((v14).toNatClampNeg)) (hX.at3 ni0 (cl_lt (n := 3) (by assumption)))
        refine ok_gd ?_ (fun g17 => ?_)
        · have c18 : (0 : Int32) ≤ (X11.1 9 i0 2) ∧ (X11.1 9 i0 2) ≤ (3 : Int32) := hX11.at1 9 i0 2
          have c19 : (0 : Int32) ≤ (X.1 9 i0 2) ∧ (X.1 9 i0 2) ≤ (3 : Int32) := hX.at1 9 i0 2
          exact vp_of (by decide) (by grind) (show v14 < (3 : Int32) by grind)
        have g17 := vp_to (by decide) g17
        have g17 : (0 : Int32) ≤ v14 ∧ v14 < (3 : Int32) := g17
        refine ok_lq (fun X18 e20 => ?_)
        have hX18 : IV A B X18 := by rw [e20]; exact hX16.u1f rfl (a2 ((v14).toNatClampNeg)) rfl
        refine ok_b1 (s_X3_take X18 hX18 (X.2.2.1 10 i0 ((0 : Int32)).toNatClampNeg) i2 (a1 (X.2.2.1 10 i0 ((0 : Int32)).toNatClampNeg) (by have := hX.at3 (i := i0) (p := ((0 : Int32)).toNatClampNeg) ni0 (cl_lt (n := 3) (by assumption)); omega)) (fun p => a3 (X.2.2.1 10 i0 ((0 : Int32)).toNatClampNeg) p (by have := hX.at3 (i := i0) (p := ((0 : Int32)).toNatClampNeg) ni0 (cl_lt (n := 3) (by assumption)); omega)) (fun p => a5 (X.2.2.1 10 i0 ((0 : Int32)).toNatClampNeg) p (by have := hX.at3 (i := i0) (p := ((0 : Int32)).toNatClampNeg) ni0 (cl_lt (n := 3) (by assumption)); omega))) (fun X20 v19 w21 => ?_)
        have hX20 : IV A B X20 := w21.1
        exact ok_some ⟨hX20, trivial⟩
      · unfold f_X2_keepCopy_J41
        refine ok_gd ?_ (fun g22 => ?_)
        · exact vp_of (by decide) (by grind) (show v1 < (3 : Int32) by grind)
        have g22 := vp_to (by decide) g22
        have g22 : (0 : Int32) ≤ v1 ∧ v1 < (3 : Int32) := g22
        refine ok_gd ?_ (fun g23 => ?_)
        · exact (hX.at3 ni0 (cl_lt (n := 3) (by assumption))).2
        have p24 : FU v1 2 1000 := by
          exact FU.start (by grind) (by decide)
        have p25 : (0 : Int32) ≤ v1 ∧ v1 ≤ (2 : Int32) := by
          exact ⟨by grind, by grind⟩
        have p26 : (1 : Int32) ≤ (X.1 9 i0 2) := by
          have c27 : (0 : Int32) ≤ (X.1 9 i0 2) ∧ (X.1 9 i0 2) ≤ (3 : Int32) := hX.at1 9 i0 2
          grind
        refine s_X2_keepCopy_L52 i0 ni0 (fun p => a2 p) (fun p => a4 p) 1000 v1 X _ p24 p25 hX p26 (fun X11 hX11 ek => ?_)
        have e28 : (1 : Int32) ≤ (X11.1 9 i0 2) := ek
        refine ok_lq (fun v14 e29 => ?_)
        refine ok_gd ?_ (fun g30 => ?_)
        · have c31 : (0 : Int32) ≤ (X11.1 9 i0 2) ∧ (X11.1 9 i0 2) ≤ (3 : Int32) := hX11.at1 9 i0 2
          have c32 : (0 : Int32) ≤ (X.1 9 i0 2) ∧ (X.1 9 i0 2) ≤ (3 : Int32) := hX.at1 9 i0 2
          exact vp_of (by decide) (by grind) (show v14 < (3 : Int32) by grind)
        have g30 := vp_to (by decide) g30
        have g30 : (0 : Int32) ≤ v14 ∧ v14 < (3 : Int32) := g30
        refine ok_lq (fun X16 e33 => ?_)
        have hX16 : IV A B X16 := by rw [e33]; exact hX11.u3 (a4 ((v14).toNatClampNeg)) (hX.at3 ni0 (cl_lt (n := 3) (by assumption)))
        refine ok_gd ?_ (fun g34 => ?_)
        · have c35 : (0 : Int32) ≤ (X11.1 9 i0 2) ∧ (X11.1 9 i0 2) ≤ (3 : Int32) := hX11.at1 9 i0 2
          have c36 : (0 : Int32) ≤ (X.1 9 i0 2) ∧ (X.1 9 i0 2) ≤ (3 : Int32) := hX.at1 9 i0 2
          exact vp_of (by decide) (by grind) (show v14 < (3 : Int32) by grind)
        have g34 := vp_to (by decide) g34
        have g34 : (0 : Int32) ≤ v14 ∧ v14 < (3 : Int32) := g34
        refine ok_lq (fun X18 e37 => ?_)
        have hX18 : IV A B X18 := by rw [e37]; exact hX16.u1f rfl (a2 ((v14).toNatClampNeg)) rfl
        refine ok_b1 (s_X3_take X18 hX18 (X.2.2.1 10 i0 (v1).toNatClampNeg) i2 (a1 (X.2.2.1 10 i0 (v1).toNatClampNeg) (by have := hX.at3 (i := i0) (p := (v1).toNatClampNeg) ni0 (cl_lt (n := 3) (by assumption)); omega)) (fun p => a3 (X.2.2.1 10 i0 (v1).toNatClampNeg) p (by have := hX.at3 (i := i0) (p := (v1).toNatClampNeg) ni0 (cl_lt (n := 3) (by assumption)); omega)) (fun p => a5 (X.2.2.1 10 i0 (v1).toNatClampNeg) p (by have := hX.at3 (i := i0) (p := (v1).toNatClampNeg) ni0 (cl_lt (n := 3) (by assumption)); omega))) (fun X20 v19 w38 => ?_)
        have hX20 : IV A B X20 := w38.1
        exact ok_some ⟨hX20, trivial⟩
    · refine ok_lq (fun v33 e39 => ?_)
      refine ok_lq (fun X34 e40 => ?_)
      have p41 : (0 : Int32) ≤ ((X.1 9 i0 2) + (1 : Int32)) ∧ ((X.1 9 i0 2) + (1 : Int32)) ≤ (3 : Int32) := by
        have c42 : (0 : Int32) ≤ (X.1 9 i0 2) ∧ (X.1 9 i0 2) ≤ (3 : Int32) := hX.at1 9 i0 2
        exact ⟨by grind, by grind⟩
      have hX34 : IV A B X34 := by rw [e40]; exact hX.u1 rfl (a6) p41
      unfold f_X2_keepCopy_J34
      refine ok_ite (fun q43 => ?_) (fun q43 => ?_)
      · unfold f_X2_keepCopy_J41
        refine ok_gd ?_ (fun g44 => ?_)
        · exact vp_of (by decide) (by grind) (show (0 : Int32) < (3 : Int32) by grind)
        have g44 := vp_to (by decide) g44
        have g44 : (0 : Int32) ≤ (0 : Int32) ∧ (0 : Int32) < (3 : Int32) := g44
        refine ok_gd ?_ (fun g45 => ?_)
        · exact (hX34.at3 ni0 (cl_lt (n := 3) (by assumption))).2
        have p46 : FU (0 : Int32) 2 1000 := by
          exact FU.start (by grind) (by decide)
        have p47 : (1 : Int32) ≤ (X34.1 9 i0 2) := by
          have c48 : (0 : Int32) ≤ (X34.1 9 i0 2) ∧ (X34.1 9 i0 2) ≤ (3 : Int32) := hX34.at1 9 i0 2
          have c49 : (X34.1 9 i0 2) = ((X.1 9 i0 2) + (1 : Int32)) := by rw [e40]; exact up_s
          have c50 : (0 : Int32) ≤ (X.1 9 i0 2) ∧ (X.1 9 i0 2) ≤ (3 : Int32) := hX.at1 9 i0 2
          grind
        refine s_X2_keepCopy_L52 i0 ni0 (fun p => a2 p) (fun p => a4 p) 1000 (0 : Int32) X34 _ p46 ⟨by decide, by decide⟩ hX34 p47 (fun X11 hX11 ek => ?_)
        have e51 : (1 : Int32) ≤ (X11.1 9 i0 2) := ek
        refine ok_lq (fun v14 e52 => ?_)
        refine ok_gd ?_ (fun g53 => ?_)
        · have c54 : (0 : Int32) ≤ (X11.1 9 i0 2) ∧ (X11.1 9 i0 2) ≤ (3 : Int32) := hX11.at1 9 i0 2
          have c55 : (0 : Int32) ≤ (X.1 9 i0 2) ∧ (X.1 9 i0 2) ≤ (3 : Int32) := hX.at1 9 i0 2
          exact vp_of (by decide) (by grind) (show v14 < (3 : Int32) by grind)
        have g53 := vp_to (by decide) g53
        have g53 : (0 : Int32) ≤ v14 ∧ v14 < (3 : Int32) := g53
        refine ok_lq (fun X16 e56 => ?_)
        have hX16 : IV A B X16 := by rw [e56]; exact hX11.u3 (a4 ((v14).toNatClampNeg)) (hX34.at3 ni0 (cl_lt (n := 3) (by assumption)))
        refine ok_gd ?_ (fun g57 => ?_)
        · have c58 : (0 : Int32) ≤ (X11.1 9 i0 2) ∧ (X11.1 9 i0 2) ≤ (3 : Int32) := hX11.at1 9 i0 2
          have c59 : (0 : Int32) ≤ (X.1 9 i0 2) ∧ (X.1 9 i0 2) ≤ (3 : Int32) := hX.at1 9 i0 2
          exact vp_of (by decide) (by grind) (show v14 < (3 : Int32) by grind)
        have g57 := vp_to (by decide) g57
        have g57 : (0 : Int32) ≤ v14 ∧ v14 < (3 : Int32) := g57
        refine ok_lq (fun X18 e60 => ?_)
        have hX18 : IV A B X18 := by rw [e60]; exact hX16.u1f rfl (a2 ((v14).toNatClampNeg)) rfl
        refine ok_b1 (s_X3_take X18 hX18 (X34.2.2.1 10 i0 ((0 : Int32)).toNatClampNeg) i2 (a1 (X34.2.2.1 10 i0 ((0 : Int32)).toNatClampNeg) (by have := hX34.at3 (i := i0) (p := ((0 : Int32)).toNatClampNeg) ni0 (cl_lt (n := 3) (by assumption)); omega)) (fun p => a3 (X34.2.2.1 10 i0 ((0 : Int32)).toNatClampNeg) p (by have := hX34.at3 (i := i0) (p := ((0 : Int32)).toNatClampNeg) ni0 (cl_lt (n := 3) (by assumption)); omega)) (fun p => a5 (X34.2.2.1 10 i0 ((0 : Int32)).toNatClampNeg) p (by have := hX34.at3 (i := i0) (p := ((0 : Int32)).toNatClampNeg) ni0 (cl_lt (n := 3) (by assumption)); omega))) (fun X20 v19 w61 => ?_)
        have hX20 : IV A B X20 := w61.1
        exact ok_some ⟨hX20, trivial⟩
      · unfold f_X2_keepCopy_J41
        refine ok_gd ?_ (fun g62 => ?_)
        · have c63 : (0 : Int32) ≤ (X.1 9 i0 2) ∧ (X.1 9 i0 2) ≤ (3 : Int32) := hX.at1 9 i0 2
          exact vp_of (by decide) (by grind) (show v33 < (3 : Int32) by grind)
        have g62 := vp_to (by decide) g62
        have g62 : (0 : Int32) ≤ v33 ∧ v33 < (3 : Int32) := g62
        refine ok_gd ?_ (fun g64 => ?_)
        · exact (hX34.at3 ni0 (cl_lt (n := 3) (by assumption))).2
        have p65 : FU v33 2 1000 := by
          have c66 : (0 : Int32) ≤ (X.1 9 i0 2) ∧ (X.1 9 i0 2) ≤ (3 : Int32) := hX.at1 9 i0 2
          exact FU.start (by grind) (by decide)
        have p67 : (0 : Int32) ≤ v33 ∧ v33 ≤ (2 : Int32) := by
          have c68 : (0 : Int32) ≤ (X.1 9 i0 2) ∧ (X.1 9 i0 2) ≤ (3 : Int32) := hX.at1 9 i0 2
          exact ⟨by grind, by grind⟩
        have p69 : (1 : Int32) ≤ (X34.1 9 i0 2) := by
          have c70 : (0 : Int32) ≤ (X34.1 9 i0 2) ∧ (X34.1 9 i0 2) ≤ (3 : Int32) := hX34.at1 9 i0 2
          have c71 : (X34.1 9 i0 2) = ((X.1 9 i0 2) + (1 : Int32)) := by rw [e40]; exact up_s
          have c72 : (0 : Int32) ≤ (X.1 9 i0 2) ∧ (X.1 9 i0 2) ≤ (3 : Int32) := hX.at1 9 i0 2
          grind
        refine s_X2_keepCopy_L52 i0 ni0 (fun p => a2 p) (fun p => a4 p) 1000 v33 X34 _ p65 p67 hX34 p69 (fun X11 hX11 ek => ?_)
        have e73 : (1 : Int32) ≤ (X11.1 9 i0 2) := ek
        refine ok_lq (fun v14 e74 => ?_)
        refine ok_gd ?_ (fun g75 => ?_)
        · have c76 : (0 : Int32) ≤ (X11.1 9 i0 2) ∧ (X11.1 9 i0 2) ≤ (3 : Int32) := hX11.at1 9 i0 2
          have c77 : (0 : Int32) ≤ (X.1 9 i0 2) ∧ (X.1 9 i0 2) ≤ (3 : Int32) := hX.at1 9 i0 2
          exact vp_of (by decide) (by grind) (show v14 < (3 : Int32) by grind)
        have g75 := vp_to (by decide) g75
        have g75 : (0 : Int32) ≤ v14 ∧ v14 < (3 : Int32) := g75
        refine ok_lq (fun X16 e78 => ?_)
        have hX16 : IV A B X16 := by rw [e78]; exact hX11.u3 (a4 ((v14).toNatClampNeg)) (hX34.at3 ni0 (cl_lt (n := 3) (by assumption)))
        refine ok_gd ?_ (fun g79 => ?_)
        · have c80 : (0 : Int32) ≤ (X11.1 9 i0 2) ∧ (X11.1 9 i0 2) ≤ (3 : Int32) := hX11.at1 9 i0 2
          have c81 : (0 : Int32) ≤ (X.1 9 i0 2) ∧ (X.1 9 i0 2) ≤ (3 : Int32) := hX.at1 9 i0 2
          exact vp_of (by decide) (by grind) (show v14 < (3 : Int32) by grind)
        have g79 := vp_to (by decide) g79
        have g79 : (0 : Int32) ≤ v14 ∧ v14 < (3 : Int32) := g79
        refine ok_lq (fun X18 e82 => ?_)
        have hX18 : IV A B X18 := by rw [e82]; exact hX16.u1f rfl (a2 ((v14).toNatClampNeg)) rfl
        refine ok_b1 (s_X3_take X18 hX18 (X34.2.2.1 10 i0 (v33).toNatClampNeg) i2 (a1 (X34.2.2.1 10 i0 (v33).toNatClampNeg) (by have := hX34.at3 (i := i0) (p := (v33).toNatClampNeg) ni0 (cl_lt (n := 3) (by assumption)); omega)) (fun p => a3 (X34.2.2.1 10 i0 (v33).toNatClampNeg) p (by have := hX34.at3 (i := i0) (p := (v33).toNatClampNeg) ni0 (cl_lt (n := 3) (by assumption)); omega)) (fun p => a5 (X34.2.2.1 10 i0 (v33).toNatClampNeg) p (by have := hX34.at3 (i := i0) (p := (v33).toNatClampNeg) ni0 (cl_lt (n := 3) (by assumption)); omega))) (fun X20 v19 w83 => ?_)
        have hX20 : IV A B X20 := w83.1
        exact ok_some ⟨hX20, trivial⟩
  · unfold f_X2_keepCopy_J34
    refine ok_ite (fun q84 => ?_) (fun q84 => ?_)
    · unfold f_X2_keepCopy_J41
      refine ok_gd ?_ (fun g85 => ?_)
      · exact vp_of (by decide) (by grind) (show (0 : Int32) < (3 : Int32) by grind)
      have g85 := vp_to (by decide) g85
      have g85 : (0 : Int32) ≤ (0 : Int32) ∧ (0 : Int32) < (3 : Int32) := g85
      refine ok_gd ?_ (fun g86 => ?_)
      · exact (hX.at3 ni0 (cl_lt (n := 3) (by assumption))).2
      have p87 : FU (0 : Int32) 2 1000 := by
        exact FU.start (by grind) (by decide)
      have p88 : (1 : Int32) ≤ (X.1 9 i0 2) := by
        have c89 : (0 : Int32) ≤ (X.1 9 i0 2) ∧ (X.1 9 i0 2) ≤ (3 : Int32) := hX.at1 9 i0 2
        grind
      refine s_X2_keepCopy_L52 i0 ni0 (fun p => a2 p) (fun p => a4 p) 1000 (0 : Int32) X _ p87 ⟨by decide, by decide⟩ hX p88 (fun X11 hX11 ek => ?_)
      have e90 : (1 : Int32) ≤ (X11.1 9 i0 2) := ek
      refine ok_lq (fun v14 e91 => ?_)
      refine ok_gd ?_ (fun g92 => ?_)
      · have c93 : (0 : Int32) ≤ (X11.1 9 i0 2) ∧ (X11.1 9 i0 2) ≤ (3 : Int32) := hX11.at1 9 i0 2
        have c94 : (0 : Int32) ≤ (X.1 9 i0 2) ∧ (X.1 9 i0 2) ≤ (3 : Int32) := hX.at1 9 i0 2
        exact vp_of (by decide) (by grind) (show v14 < (3 : Int32) by grind)
      have g92 := vp_to (by decide) g92
      have g92 : (0 : Int32) ≤ v14 ∧ v14 < (3 : Int32) := g92
      refine ok_lq (fun X16 e95 => ?_)
      have hX16 : IV A B X16 := by rw [e95]; exact hX11.u3 (a4 ((v14).toNatClampNeg)) (hX.at3 ni0 (cl_lt (n := 3) (by assumption)))
      refine ok_gd ?_ (fun g96 => ?_)
      · have c97 : (0 : Int32) ≤ (X11.1 9 i0 2) ∧ (X11.1 9 i0 2) ≤ (3 : Int32) := hX11.at1 9 i0 2
        have c98 : (0 : Int32) ≤ (X.1 9 i0 2) ∧ (X.1 9 i0 2) ≤ (3 : Int32) := hX.at1 9 i0 2
        exact vp_of (by decide) (by grind) (show v14 < (3 : Int32) by grind)
      have g96 := vp_to (by decide) g96
      have g96 : (0 : Int32) ≤ v14 ∧ v14 < (3 : Int32) := g96
      refine ok_lq (fun X18 e99 => ?_)
      have hX18 : IV A B X18 := by rw [e99]; exact hX16.u1f rfl (a2 ((v14).toNatClampNeg)) rfl
      refine ok_b1 (s_X3_take X18 hX18 (X.2.2.1 10 i0 ((0 : Int32)).toNatClampNeg) i2 (a1 (X.2.2.1 10 i0 ((0 : Int32)).toNatClampNeg) (by have := hX.at3 (i := i0) (p := ((0 : Int32)).toNatClampNeg) ni0 (cl_lt (n := 3) (by assumption)); omega)) (fun p => a3 (X.2.2.1 10 i0 ((0 : Int32)).toNatClampNeg) p (by have := hX.at3 (i := i0) (p := ((0 : Int32)).toNatClampNeg) ni0 (cl_lt (n := 3) (by assumption)); omega)) (fun p => a5 (X.2.2.1 10 i0 ((0 : Int32)).toNatClampNeg) p (by have := hX.at3 (i := i0) (p := ((0 : Int32)).toNatClampNeg) ni0 (cl_lt (n := 3) (by assumption)); omega))) (fun X20 v19 w100 => ?_)
      have hX20 : IV A B X20 := w100.1
      exact ok_some ⟨hX20, trivial⟩
    · unfold f_X2_keepCopy_J41
      refine ok_gd ?_ (fun g101 => ?_)
      · exact vp_of (by decide) (by grind) (show v1 < (3 : Int32) by grind)
      have g101 := vp_to (by decide) g101
      have g101 : (0 : Int32) ≤ v1 ∧ v1 < (3 : Int32) := g101
      refine ok_gd ?_ (fun g102 => ?_)
      · exact (hX.at3 ni0 (cl_lt (n := 3) (by assumption))).2
      have p103 : FU v1 2 1000 := by
        exact FU.start (by grind) (by decide)
      have p104 : (0 : Int32) ≤ v1 ∧ v1 ≤ (2 : Int32) := by
        exact ⟨by grind, by grind⟩
      have p105 : (1 : Int32) ≤ (X.1 9 i0 2) := by
        have c106 : (0 : Int32) ≤ (X.1 9 i0 2) ∧ (X.1 9 i0 2) ≤ (3 : Int32) := hX.at1 9 i0 2
        grind
      refine s_X2_keepCopy_L52 i0 ni0 (fun p => a2 p) (fun p => a4 p) 1000 v1 X _ p103 p104 hX p105 (fun X11 hX11 ek => ?_)
      have e107 : (1 : Int32) ≤ (X11.1 9 i0 2) := ek
      refine ok_lq (fun v14 e108 => ?_)
      refine ok_gd ?_ (fun g109 => ?_)
      · have c110 : (0 : Int32) ≤ (X11.1 9 i0 2) ∧ (X11.1 9 i0 2) ≤ (3 : Int32) := hX11.at1 9 i0 2
        have c111 : (0 : Int32) ≤ (X.1 9 i0 2) ∧ (X.1 9 i0 2) ≤ (3 : Int32) := hX.at1 9 i0 2
        exact vp_of (by decide) (by grind) (show v14 < (3 : Int32) by grind)
      have g109 := vp_to (by decide) g109
      have g109 : (0 : Int32) ≤ v14 ∧ v14 < (3 : Int32) := g109
      refine ok_lq (fun X16 e112 => ?_)
      have hX16 : IV A B X16 := by rw [e112]; exact hX11.u3 (a4 ((v14).toNatClampNeg)) (hX.at3 ni0 (cl_lt (n := 3) (by assumption)))
      refine ok_gd ?_ (fun g113 => ?_)
      · have c114 : (0 : Int32) ≤ (X11.1 9 i0 2) ∧ (X11.1 9 i0 2) ≤ (3 : Int32) := hX11.at1 9 i0 2
        have c115 : (0 : Int32) ≤ (X.1 9 i0 2) ∧ (X.1 9 i0 2) ≤ (3 : Int32) := hX.at1 9 i0 2
        exact vp_of (by decide) (by grind) (show v14 < (3 : Int32) by grind)
      have g113 := vp_to (by decide) g113
      have g113 : (0 : Int32) ≤ v14 ∧ v14 < (3 : Int32) := g113
      refine ok_lq (fun X18 e116 => ?_)
      have hX18 : IV A B X18 := by rw [e116]; exact hX16.u1f rfl (a2 ((v14).toNatClampNeg)) rfl
      refine ok_b1 (s_X3_take X18 hX18 (X.2.2.1 10 i0 (v1).toNatClampNeg) i2 (a1 (X.2.2.1 10 i0 (v1).toNatClampNeg) (by have := hX.at3 (i := i0) (p := (v1).toNatClampNeg) ni0 (cl_lt (n := 3) (by assumption)); omega)) (fun p => a3 (X.2.2.1 10 i0 (v1).toNatClampNeg) p (by have := hX.at3 (i := i0) (p := (v1).toNatClampNeg) ni0 (cl_lt (n := 3) (by assumption)); omega)) (fun p => a5 (X.2.2.1 10 i0 (v1).toNatClampNeg) p (by have := hX.at3 (i := i0) (p := (v1).toNatClampNeg) ni0 (cl_lt (n := 3) (by assumption)); omega))) (fun X20 v19 w117 => ?_)
      have hX20 : IV A B X20 := w117.1
      exact ok_some ⟨hX20, trivial⟩