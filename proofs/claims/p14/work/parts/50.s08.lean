theorem s_X7_isBody_J111 {A : Nat → Nat → Nat → Prop} {B : SS} (M11 : SS) (hM11 : IV A B M11) (v19 : Int32) (iv19 : (0 : Int32) ≤ v19 ∧ v19 ≤ (39 : Int32)) (v9 : Int32) (iv9 : (0 : Int32) ≤ v9 ∧ v9 ≤ (4 : Int32)) (v17 : Int32) (iv17 : (0 : Int32) ≤ v17 ∧ v17 ≤ (199 : Int32)) (v21 : Int32) (iv21 : (0 : Int32) ≤ v21 ∧ v21 ≤ (1 : Int32)) (a1 : A 26 0 38) (a2 : A 26 0 39) (a3 : A 26 0 40) (a4 : ∀ p, A 53 0 p) (a5 : ∀ p, A 54 0 p) {n : Nat} (rc : Int32 → Int32 → SS → (Int32 → SS → Option (SS × Int32)) → Option (SS × Int32)) (hrc : ∀ (v9 : Int32) (v10 : Int32) (M11 : SS) (k6 : (Int32 → SS → Option (SS × Int32))), (FU v9 5 n) → ((0 : Int32) ≤ v9 ∧ v9 ≤ (5 : Int32)) → ((0 : Int32) ≤ v10 ∧ v10 ≤ (1 : Int32)) → (IV A B M11) → (∀ (k_0 : Int32) (k_1 : SS), ((0 : Int32) ≤ k_0 ∧ k_0 ≤ (1 : Int32)) → (IV A B k_1) → ok (k6 k_0 k_1) (fun r => IV A B r.1 ∧ (0 : Int32) ≤ r.2 ∧ r.2 ≤ (1 : Int32))) → ok (rc v9 v10 M11 k6) (fun r => IV A B r.1 ∧ (0 : Int32) ≤ r.2 ∧ r.2 ≤ (1 : Int32))) (k6 : Int32 → SS → Option (SS × Int32)) (hk : ∀ (k_0 : Int32) (k_1 : SS), ((0 : Int32) ≤ k_0 ∧ k_0 ≤ (1 : Int32)) → (IV A B k_1) → ok (k6 k_0 k_1) (fun r => IV A B r.1 ∧ (0 : Int32) ≤ r.2 ∧ r.2 ≤ (1 : Int32))) (hF : FU v9 5 (n + 1)) : ok (f_X7_isBody_J111 rc k6 M11 v19 v9 v17 v21) (fun r => IV A B r.1 ∧ (0 : Int32) ≤ r.2 ∧ r.2 ≤ (1 : Int32)) := by
  unfold f_X7_isBody_J111
  have pf1 : (0 : Int32) ≤ v19 ∧ v19 ≤ (39 : Int32) := by
    exact ⟨by grind, by grind⟩
  refine ok_b1 (s_X7_runs M11 hM11 (40 : Int32) (show (0 : Int32) ≤ (40 : Int32) ∧ (40 : Int32) ≤ (40 : Int32) from ⟨by decide, by decide⟩) v19 pf1 (a1) (a2) (a3) (fun p => a4 p) (fun p => a5 p)) (fun M24 v23 w2 => ?_)
  have hM24 : IV A B M24 := w2.1
  have w3 : (101 : Int32) ≤ v23 ∧ v23 ≤ (122 : Int32) := w2.2
  refine ok_ite (fun q4 => ?_) (fun q4 => ?_)
  · have pf5 : FU (v9 + (1 : Int32)) 5 n := by
      exact FU.step hF (by grind)
    have pf6 : (0 : Int32) ≤ (v9 + (1 : Int32)) ∧ (v9 + (1 : Int32)) ≤ (5 : Int32) := by
      exact ⟨by grind, by grind⟩
    exact hrc (v9 + (1 : Int32)) (1 : Int32) M24 k6 pf5 pf6 (show (0 : Int32) ≤ (1 : Int32) ∧ (1 : Int32) ≤ (1 : Int32) from ⟨by decide, by decide⟩) hM24 hk
  · refine ok_ite (fun q7 => ?_) (fun q7 => ?_)
    · have pf8 : FU (v9 + (1 : Int32)) 5 n := by
        exact FU.step hF (by grind)
      have pf9 : (0 : Int32) ≤ (v9 + (1 : Int32)) ∧ (v9 + (1 : Int32)) ≤ (5 : Int32) := by
        exact ⟨by grind, by grind⟩
      exact hrc (v9 + (1 : Int32)) (0 : Int32) M24 k6 pf8 pf9 (show (0 : Int32) ≤ (0 : Int32) ∧ (0 : Int32) ≤ (1 : Int32) from ⟨by decide, by decide⟩) hM24 hk
    · refine ok_gd ?_ (fun g10 => ?_)
      · exact vp_of (by decide) (by grind) (show v17 < (200 : Int32) by grind)
      have g10 := vp_to (by decide) g10
      have g10 : (0 : Int32) ≤ v17 ∧ v17 < (200 : Int32) := g10
      refine ok_ite (fun q11 => ?_) (fun q11 => ?_)
      · have pf12 : FU (v9 + (1 : Int32)) 5 n := by
          exact FU.step hF (by grind)
        have pf13 : (0 : Int32) ≤ (v9 + (1 : Int32)) ∧ (v9 + (1 : Int32)) ≤ (5 : Int32) := by
          exact ⟨by grind, by grind⟩
        exact hrc (v9 + (1 : Int32)) (1 : Int32) M24 k6 pf12 pf13 (show (0 : Int32) ≤ (1 : Int32) ∧ (1 : Int32) ≤ (1 : Int32) from ⟨by decide, by decide⟩) hM24 hk
      · have pf14 : FU (v9 + (1 : Int32)) 5 n := by
          exact FU.step hF (by grind)
        have pf15 : (0 : Int32) ≤ (v9 + (1 : Int32)) ∧ (v9 + (1 : Int32)) ≤ (5 : Int32) := by
          exact ⟨by grind, by grind⟩
        exact hrc (v9 + (1 : Int32)) (0 : Int32) M24 k6 pf14 pf15 (show (0 : Int32) ≤ (0 : Int32) ∧ (0 : Int32) ≤ (1 : Int32) from ⟨by decide, by decide⟩) hM24 hk
theorem s_X7_isBody_J110 {A : Nat → Nat → Nat → Prop} {B : SS} (M11 : SS) (hM11 : IV A B M11) (v19 : Int32) (iv19 : (0 : Int32) ≤ v19 ∧ v19 ≤ (39 : Int32)) (v9 : Int32) (iv9 : (0 : Int32) ≤ v9 ∧ v9 ≤ (4 : Int32)) (v17 : Int32) (iv17 : (0 : Int32) ≤ v17 ∧ v17 ≤ (199 : Int32)) (a1 : A 26 0 38) (a2 : A 26 0 39) (a3 : A 26 0 40) (a4 : ∀ p, A 53 0 p) (a5 : ∀ p, A 54 0 p) {n : Nat} (rc : Int32 → Int32 → SS → (Int32 → SS → Option (SS × Int32)) → Option (SS × Int32)) (hrc : ∀ (v9 : Int32) (v10 : Int32) (M11 : SS) (k6 : (Int32 → SS → Option (SS × Int32))), (FU v9 5 n) → ((0 : Int32) ≤ v9 ∧ v9 ≤ (5 : Int32)) → ((0 : Int32) ≤ v10 ∧ v10 ≤ (1 : Int32)) → (IV A B M11) → (∀ (k_0 : Int32) (k_1 : SS), ((0 : Int32) ≤ k_0 ∧ k_0 ≤ (1 : Int32)) → (IV A B k_1) → ok (k6 k_0 k_1) (fun r => IV A B r.1 ∧ (0 : Int32) ≤ r.2 ∧ r.2 ≤ (1 : Int32))) → ok (rc v9 v10 M11 k6) (fun r => IV A B r.1 ∧ (0 : Int32) ≤ r.2 ∧ r.2 ≤ (1 : Int32))) (k6 : Int32 → SS → Option (SS × Int32)) (hk : ∀ (k_0 : Int32) (k_1 : SS), ((0 : Int32) ≤ k_0 ∧ k_0 ≤ (1 : Int32)) → (IV A B k_1) → ok (k6 k_0 k_1) (fun r => IV A B r.1 ∧ (0 : Int32) ≤ r.2 ∧ r.2 ≤ (1 : Int32))) (hF : FU v9 5 (n + 1)) : ok (f_X7_isBody_J110 rc k6 M11 v19 v9 v17) (fun r => IV A B r.1 ∧ (0 : Int32) ≤ r.2 ∧ r.2 ≤ (1 : Int32)) := by
  unfold f_X7_isBody_J110
  have pf1 : (0 : Int32) ≤ v19 ∧ v19 ≤ (39 : Int32) := by
    exact ⟨by grind, by grind⟩
  have pf2 : (0 : Int32) ≤ v9 ∧ v9 ≤ (4 : Int32) := by
    exact ⟨by grind, by grind⟩
  have pf3 : (0 : Int32) ≤ v17 ∧ v17 ≤ (199 : Int32) := by
    exact ⟨by grind, by grind⟩
  exact s_X7_isBody_J111 M11 hM11 v19 pf1 v9 pf2 v17 pf3 (0 : Int32) (show (0 : Int32) ≤ (0 : Int32) ∧ (0 : Int32) ≤ (1 : Int32) from ⟨by decide, by decide⟩) (a1) (a2) (a3) (fun p => a4 p) (fun p => a5 p) rc hrc k6 hk hF
theorem s_X7_isBody_L40 {A : Nat → Nat → Nat → Prop} {B : SS} (p0 : Int32) (ip0 : (0 : Int32) ≤ p0 ∧ p0 ≤ (39 : Int32)) (a1 : A 26 0 38) (a2 : A 26 0 39) (a3 : A 26 0 40) (a4 : ∀ p, A 53 0 p) (a5 : ∀ p, A 54 0 p) : ∀ (n : Nat), ∀ (v9 : Int32) (v10 : Int32) (M11 : SS) (k6 : (Int32 → SS → Option (SS × Int32))), (FU v9 5 n) → ((0 : Int32) ≤ v9 ∧ v9 ≤ (5 : Int32)) → ((0 : Int32) ≤ v10 ∧ v10 ≤ (1 : Int32)) → (IV A B M11) → (∀ (k_0 : Int32) (k_1 : SS), ((0 : Int32) ≤ k_0 ∧ k_0 ≤ (1 : Int32)) → (IV A B k_1) → ok (k6 k_0 k_1) (fun r => IV A B r.1 ∧ (0 : Int32) ≤ r.2 ∧ r.2 ≤ (1 : Int32))) → ok (f_X7_isBody_L40 p0 n v9 v10 M11 k6) (fun r => IV A B r.1 ∧ (0 : Int32) ≤ r.2 ∧ r.2 ≤ (1 : Int32)) := by
  intro n
  induction n with
  | zero =>
    intro v9 v10 M11 k6 hF iv9 iv10 hM11 hk
    exact (FU.stop hF (show v9 ≤ (5 : Int32) by grind)).elim
  | succ n ih =>
    intro v9 v10 M11 k6 hF iv9 iv10 hM11 hk
    rw [f_X7_isBody_L40]
    refine ok_gd ?_ (fun g1 => ?_)
    · exact vp_of (by decide) (by grind) (show p0 < (40 : Int32) by grind)
    have g1 := vp_to (by decide) g1
    have g1 : (0 : Int32) ≤ p0 ∧ p0 < (40 : Int32) := g1
    refine ok_gd ?_ (fun g2 => ?_)
    · have c3 : (0 : Int32) ≤ (M11.1 40 0 (p0).toNatClampNeg) ∧ (M11.1 40 0 (p0).toNatClampNeg) ≤ (7 : Int32) := hM11.at1 40 0 ((p0).toNatClampNeg)
      exact vp_of (by decide) (by grind) (show (M11.1 40 0 (p0).toNatClampNeg) < (8 : Int32) by grind)
    have g2 := vp_to (by decide) g2
    have g2 : (0 : Int32) ≤ (M11.1 40 0 (p0).toNatClampNeg) ∧ (M11.1 40 0 (p0).toNatClampNeg) < (8 : Int32) := g2
    refine ok_ite (fun q4 => ?_) (fun q4 => ?_)
    · have pf5 : (0 : Int32) ≤ v10 ∧ v10 ≤ (1 : Int32) := by
        exact ⟨by grind, by grind⟩
      exact hk v10 M11 pf5 hM11
    · refine ok_ite (fun q6 => ?_) (fun q6 => ?_)
      · have pf7 : (0 : Int32) ≤ v10 ∧ v10 ≤ (1 : Int32) := by
          exact ⟨by grind, by grind⟩
        exact hk v10 M11 pf7 hM11
      · refine ok_lq (fun v17 eq_8 => ?_)
        refine ok_gd ?_ (fun g9 => ?_)
        · have c10 : (0 : Int32) ≤ (M11.1 40 0 (p0).toNatClampNeg) ∧ (M11.1 40 0 (p0).toNatClampNeg) ≤ (7 : Int32) := hM11.at1 40 0 ((p0).toNatClampNeg)
          have c11 : (0 : Int32) ≤ (M11.1 33 0 ((M11.1 40 0 (p0).toNatClampNeg)).toNatClampNeg) ∧ (M11.1 33 0 ((M11.1 40 0 (p0).toNatClampNeg)).toNatClampNeg) ≤ (5 : Int32) := hM11.at1 33 0 (((M11.1 40 0 (p0).toNatClampNeg)).toNatClampNeg)
          exact vp_of (by decide) (by grind) (show p0 < (40 : Int32) by grind)
        have g9 := vp_to (by decide) g9
        have g9 : (0 : Int32) ≤ p0 ∧ p0 < (40 : Int32) := g9
        refine ok_lq (fun v19 eq_12 => ?_)
        refine ok_gd ?_ (fun g13 => ?_)
        · have c14 : (0 : Int32) ≤ (M11.1 40 0 (p0).toNatClampNeg) ∧ (M11.1 40 0 (p0).toNatClampNeg) ≤ (7 : Int32) := hM11.at1 40 0 ((p0).toNatClampNeg)
          have c15 : (0 : Int32) ≤ (M11.1 33 0 ((M11.1 40 0 (p0).toNatClampNeg)).toNatClampNeg) ∧ (M11.1 33 0 ((M11.1 40 0 (p0).toNatClampNeg)).toNatClampNeg) ≤ (5 : Int32) := hM11.at1 33 0 (((M11.1 40 0 (p0).toNatClampNeg)).toNatClampNeg)
          exact vp_of (by decide) (by grind) (show v17 < (200 : Int32) by grind)
        have g13 := vp_to (by decide) g13
        have g13 : (0 : Int32) ≤ v17 ∧ v17 < (200 : Int32) := g13
        refine ok_ite (fun q16 => ?_) (fun q16 => ?_)
        · have pf17 : (0 : Int32) ≤ v19 ∧ v19 ≤ (39 : Int32) := by
            have c18 : (0 : Int32) ≤ (M11.1 40 0 (p0).toNatClampNeg) ∧ (M11.1 40 0 (p0).toNatClampNeg) ≤ (7 : Int32) := hM11.at1 40 0 ((p0).toNatClampNeg)
            have c19 : (0 : Int32) ≤ (M11.1 33 0 ((M11.1 40 0 (p0).toNatClampNeg)).toNatClampNeg) ∧ (M11.1 33 0 ((M11.1 40 0 (p0).toNatClampNeg)).toNatClampNeg) ≤ (5 : Int32) := hM11.at1 33 0 (((M11.1 40 0 (p0).toNatClampNeg)).toNatClampNeg)
            exact ⟨by grind, by grind⟩
          have pf20 : (0 : Int32) ≤ v9 ∧ v9 ≤ (4 : Int32) := by
            have c21 : (0 : Int32) ≤ (M11.1 33 0 ((M11.1 40 0 (p0).toNatClampNeg)).toNatClampNeg) ∧ (M11.1 33 0 ((M11.1 40 0 (p0).toNatClampNeg)).toNatClampNeg) ≤ (5 : Int32) := hM11.at1 33 0 (((M11.1 40 0 (p0).toNatClampNeg)).toNatClampNeg)
            have c22 : (0 : Int32) ≤ (M11.1 40 0 (p0).toNatClampNeg) ∧ (M11.1 40 0 (p0).toNatClampNeg) ≤ (7 : Int32) := hM11.at1 40 0 ((p0).toNatClampNeg)
            exact ⟨by grind, by grind⟩
          have pf23 : (0 : Int32) ≤ v17 ∧ v17 ≤ (199 : Int32) := by
            have c24 : (0 : Int32) ≤ (M11.1 40 0 (p0).toNatClampNeg) ∧ (M11.1 40 0 (p0).toNatClampNeg) ≤ (7 : Int32) := hM11.at1 40 0 ((p0).toNatClampNeg)
            have c25 : (0 : Int32) ≤ (M11.1 33 0 ((M11.1 40 0 (p0).toNatClampNeg)).toNatClampNeg) ∧ (M11.1 33 0 ((M11.1 40 0 (p0).toNatClampNeg)).toNatClampNeg) ≤ (5 : Int32) := hM11.at1 33 0 (((M11.1 40 0 (p0).toNatClampNeg)).toNatClampNeg)
            exact ⟨by grind, by grind⟩
          exact s_X7_isBody_J110 M11 hM11 v19 pf17 v9 pf20 v17 pf23 (a1) (a2) (a3) (fun p => a4 p) (fun p => a5 p) (f_X7_isBody_L40 p0 n) ih k6 hk hF
        · refine ok_gd ?_ (fun g26 => ?_)
          · have c27 : (0 : Int32) ≤ (M11.1 40 0 (p0).toNatClampNeg) ∧ (M11.1 40 0 (p0).toNatClampNeg) ≤ (7 : Int32) := hM11.at1 40 0 ((p0).toNatClampNeg)
            have c28 : (0 : Int32) ≤ (M11.1 33 0 ((M11.1 40 0 (p0).toNatClampNeg)).toNatClampNeg) ∧ (M11.1 33 0 ((M11.1 40 0 (p0).toNatClampNeg)).toNatClampNeg) ≤ (5 : Int32) := hM11.at1 33 0 (((M11.1 40 0 (p0).toNatClampNeg)).toNatClampNeg)
            exact vp_of (by decide) (by grind) (show v17 < (200 : Int32) by grind)
          have g26 := vp_to (by decide) g26
          have g26 : (0 : Int32) ≤ v17 ∧ v17 < (200 : Int32) := g26
          refine ok_gd ?_ (fun g29 => ?_)
          · have c30 : (0 : Int32) ≤ (M11.1 40 0 (p0).toNatClampNeg) ∧ (M11.1 40 0 (p0).toNatClampNeg) ≤ (7 : Int32) := hM11.at1 40 0 ((p0).toNatClampNeg)
            have c31 : (0 : Int32) ≤ (M11.1 33 0 ((M11.1 40 0 (p0).toNatClampNeg)).toNatClampNeg) ∧ (M11.1 33 0 ((M11.1 40 0 (p0).toNatClampNeg)).toNatClampNeg) ≤ (5 : Int32) := hM11.at1 33 0 (((M11.1 40 0 (p0).toNatClampNeg)).toNatClampNeg)
            exact vp_of (by decide) (by grind) (show v19 < (40 : Int32) by grind)
          have g29 := vp_to (by decide) g29
          have g29 : (0 : Int32) ≤ v19 ∧ v19 < (40 : Int32) := g29
          refine ok_ite (fun q32 => ?_) (fun q32 => ?_)
          · have pf33 : (0 : Int32) ≤ v19 ∧ v19 ≤ (39 : Int32) := by
              have c34 : (0 : Int32) ≤ (M11.1 40 0 (p0).toNatClampNeg) ∧ (M11.1 40 0 (p0).toNatClampNeg) ≤ (7 : Int32) := hM11.at1 40 0 ((p0).toNatClampNeg)
              have c35 : (0 : Int32) ≤ (M11.1 33 0 ((M11.1 40 0 (p0).toNatClampNeg)).toNatClampNeg) ∧ (M11.1 33 0 ((M11.1 40 0 (p0).toNatClampNeg)).toNatClampNeg) ≤ (5 : Int32) := hM11.at1 33 0 (((M11.1 40 0 (p0).toNatClampNeg)).toNatClampNeg)
              exact ⟨by grind, by grind⟩
            have pf36 : (0 : Int32) ≤ v9 ∧ v9 ≤ (4 : Int32) := by
              have c37 : (0 : Int32) ≤ (M11.1 33 0 ((M11.1 40 0 (p0).toNatClampNeg)).toNatClampNeg) ∧ (M11.1 33 0 ((M11.1 40 0 (p0).toNatClampNeg)).toNatClampNeg) ≤ (5 : Int32) := hM11.at1 33 0 (((M11.1 40 0 (p0).toNatClampNeg)).toNatClampNeg)
              have c38 : (0 : Int32) ≤ (M11.1 40 0 (p0).toNatClampNeg) ∧ (M11.1 40 0 (p0).toNatClampNeg) ≤ (7 : Int32) := hM11.at1 40 0 ((p0).toNatClampNeg)
              exact ⟨by grind, by grind⟩
            have pf39 : (0 : Int32) ≤ v17 ∧ v17 ≤ (199 : Int32) := by
              have c40 : (0 : Int32) ≤ (M11.1 40 0 (p0).toNatClampNeg) ∧ (M11.1 40 0 (p0).toNatClampNeg) ≤ (7 : Int32) := hM11.at1 40 0 ((p0).toNatClampNeg)
              have c41 : (0 : Int32) ≤ (M11.1 33 0 ((M11.1 40 0 (p0).toNatClampNeg)).toNatClampNeg) ∧ (M11.1 33 0 ((M11.1 40 0 (p0).toNatClampNeg)).toNatClampNeg) ≤ (5 : Int32) := hM11.at1 33 0 (((M11.1 40 0 (p0).toNatClampNeg)).toNatClampNeg)
              exact ⟨by grind, by grind⟩
            exact s_X7_isBody_J111 M11 hM11 v19 pf33 v9 pf36 v17 pf39 (1 : Int32) (show (0 : Int32) ≤ (1 : Int32) ∧ (1 : Int32) ≤ (1 : Int32) from ⟨by decide, by decide⟩) (a1) (a2) (a3) (fun p => a4 p) (fun p => a5 p) (f_X7_isBody_L40 p0 n) ih k6 hk hF
          · have pf42 : (0 : Int32) ≤ v19 ∧ v19 ≤ (39 : Int32) := by
              have c43 : (0 : Int32) ≤ (M11.1 40 0 (p0).toNatClampNeg) ∧ (M11.1 40 0 (p0).toNatClampNeg) ≤ (7 : Int32) := hM11.at1 40 0 ((p0).toNatClampNeg)
              have c44 : (0 : Int32) ≤ (M11.1 33 0 ((M11.1 40 0 (p0).toNatClampNeg)).toNatClampNeg) ∧ (M11.1 33 0 ((M11.1 40 0 (p0).toNatClampNeg)).toNatClampNeg) ≤ (5 : Int32) := hM11.at1 33 0 (((M11.1 40 0 (p0).toNatClampNeg)).toNatClampNeg)
              exact ⟨by grind, by grind⟩
            have pf45 : (0 : Int32) ≤ v9 ∧ v9 ≤ (4 : Int32) := by
              have c46 : (0 : Int32) ≤ (M11.1 33 0 ((M11.1 40 0 (p0).toNatClampNeg)).toNatClampNeg) ∧ (M11.1 33 0 ((M11.1 40 0 (p0).toNatClampNeg)).toNatClampNeg) ≤ (5 : Int32) := hM11.at1 33 0 (((M11.1 40 0 (p0).toNatClampNeg)).toNatClampNeg)
              have c47 : (0 : Int32) ≤ (M11.1 40 0 (p0).toNatClampNeg) ∧ (M11.1 40 0 (p0).toNatClampNeg) ≤ (7 : Int32) := hM11.at1 40 0 ((p0).toNatClampNeg)
              exact ⟨by grind, by grind⟩
            have pf48 : (0 : Int32) ≤ v17 ∧ v17 ≤ (199 : Int32) := by
              have c49 : (0 : Int32) ≤ (M11.1 40 0 (p0).toNatClampNeg) ∧ (M11.1 40 0 (p0).toNatClampNeg) ≤ (7 : Int32) := hM11.at1 40 0 ((p0).toNatClampNeg)
              have c50 : (0 : Int32) ≤ (M11.1 33 0 ((M11.1 40 0 (p0).toNatClampNeg)).toNatClampNeg) ∧ (M11.1 33 0 ((M11.1 40 0 (p0).toNatClampNeg)).toNatClampNeg) ≤ (5 : Int32) := hM11.at1 33 0 (((M11.1 40 0 (p0).toNatClampNeg)).toNatClampNeg)
              exact ⟨by grind, by grind⟩
            exact s_X7_isBody_J110 M11 hM11 v19 pf42 v9 pf45 v17 pf48 (a1) (a2) (a3) (fun p => a4 p) (fun p => a5 p) (f_X7_isBody_L40 p0 n) ih k6 hk hF
theorem s_X7_isBody {A : Nat → Nat → Nat → Prop} {B : SS} (M : SS) (hM : IV A B M) (p0 : Int32) (ip0 : (0 : Int32) ≤ p0 ∧ p0 ≤ (39 : Int32)) (a1 : A 26 0 38) (a2 : A 26 0 39) (a3 : A 26 0 40) (a4 : ∀ p, A 53 0 p) (a5 : ∀ p, A 54 0 p) : ok (f_X7_isBody M p0) (fun r => IV A B r.1 ∧ (0 : Int32) ≤ r.2 ∧ r.2 ≤ (1 : Int32)) := by
  unfold f_X7_isBody
  refine ok_b0 (s_X7_sumOf M hM (40 : Int32) (show (0 : Int32) ≤ (40 : Int32) ∧ (40 : Int32) ≤ (40 : Int32) from ⟨by decide, by decide⟩)) (fun v1 w1 => ?_)
  refine ok_gd ?_ (fun g2 => ?_)
  · exact vp_of (by decide) (by grind) (show p0 < (40 : Int32) by grind)
  have g2 := vp_to (by decide) g2
  have g2 : (0 : Int32) ≤ p0 ∧ p0 < (40 : Int32) := g2
  refine ok_ite (fun q3 => ?_) (fun q3 => ?_)
  · refine ok_gd ?_ (fun g4 => ?_)
    · exact vp_of (by decide) (by grind) (show p0 < (41 : Int32) by grind)
    have g4 := vp_to (by decide) g4
    have g4 : (0 : Int32) ≤ p0 ∧ p0 < (41 : Int32) := g4
    refine ok_ite (fun q5 => ?_) (fun q5 => ?_)
    · unfold f_X7_isBody_J37
      have pf6 : (0 : Int32) ≤ p0 ∧ p0 ≤ (39 : Int32) := by
        have c7 : (0 : Int32) ≤ (M.1 29 0 ((40 : Int32)).toNatClampNeg) ∧ (M.1 29 0 ((40 : Int32)).toNatClampNeg) ≤ (24 : Int32) := hM.at1 29 0 (((40 : Int32)).toNatClampNeg)
        have c8 : (0 : Int32) ≤ (M.1 29 0 (p0).toNatClampNeg) ∧ (M.1 29 0 (p0).toNatClampNeg) ≤ (24 : Int32) := hM.at1 29 0 ((p0).toNatClampNeg)
        exact ⟨by grind, by grind⟩
      have pf9 : FU (0 : Int32) 5 1000 := by
        exact FU.start (by grind) (by decide)
      refine s_X7_isBody_L40 p0 pf6 (a1) (a2) (a3) (fun p => a4 p) (fun p => a5 p) 1000 (0 : Int32) (1 : Int32) M _ pf9 (show (0 : Int32) ≤ (0 : Int32) ∧ (0 : Int32) ≤ (5 : Int32) from ⟨by decide, by decide⟩) (show (0 : Int32) ≤ (1 : Int32) ∧ (1 : Int32) ≤ (1 : Int32) from ⟨by decide, by decide⟩) hM (fun v7 M8 wv7 hM8 => ?_)
      have wv7 : (0 : Int32) ≤ v7 ∧ v7 ≤ (1 : Int32) := wv7
      refine ok_gd ?_ (fun g10 => ?_)
      · exact okz_of (by grind) (by grind)
      have pf11 : (0 : Int32) ≤ v7 ∧ v7 ≤ (1 : Int32) := by
        exact ⟨by grind, by grind⟩
      exact ok_some ⟨hM8, pf11⟩
    · unfold f_X7_isBody_J36
      unfold f_X7_isBody_J37
      have pf12 : (0 : Int32) ≤ p0 ∧ p0 ≤ (39 : Int32) := by
        have c13 : (0 : Int32) ≤ (M.1 29 0 ((40 : Int32)).toNatClampNeg) ∧ (M.1 29 0 ((40 : Int32)).toNatClampNeg) ≤ (24 : Int32) := hM.at1 29 0 (((40 : Int32)).toNatClampNeg)
        have c14 : (0 : Int32) ≤ (M.1 29 0 (p0).toNatClampNeg) ∧ (M.1 29 0 (p0).toNatClampNeg) ≤ (24 : Int32) := hM.at1 29 0 ((p0).toNatClampNeg)
        exact ⟨by grind, by grind⟩
      have pf15 : FU (0 : Int32) 5 1000 := by
        exact FU.start (by grind) (by decide)
      refine s_X7_isBody_L40 p0 pf12 (a1) (a2) (a3) (fun p => a4 p) (fun p => a5 p) 1000 (0 : Int32) (0 : Int32) M _ pf15 (show (0 : Int32) ≤ (0 : Int32) ∧ (0 : Int32) ≤ (5 : Int32) from ⟨by decide, by decide⟩) (show (0 : Int32) ≤ (0 : Int32) ∧ (0 : Int32) ≤ (1 : Int32) from ⟨by decide, by decide⟩) hM (fun v7 M8 wv7 hM8 => ?_)
      have wv7 : (0 : Int32) ≤ v7 ∧ v7 ≤ (1 : Int32) := wv7
      refine ok_gd ?_ (fun g16 => ?_)
      · exact okz_of (by grind) (by grind)
      have pf17 : (0 : Int32) ≤ v7 ∧ v7 ≤ (1 : Int32) := by
        exact ⟨by grind, by grind⟩
      exact ok_some ⟨hM8, pf17⟩
  · unfold f_X7_isBody_J36
    unfold f_X7_isBody_J37
    have pf18 : (0 : Int32) ≤ p0 ∧ p0 ≤ (39 : Int32) := by
      exact ⟨by grind, by grind⟩
    have pf19 : FU (0 : Int32) 5 1000 := by
      exact FU.start (by grind) (by decide)
    refine s_X7_isBody_L40 p0 pf18 (a1) (a2) (a3) (fun p => a4 p) (fun p => a5 p) 1000 (0 : Int32) (0 : Int32) M _ pf19 (show (0 : Int32) ≤ (0 : Int32) ∧ (0 : Int32) ≤ (5 : Int32) from ⟨by decide, by decide⟩) (show (0 : Int32) ≤ (0 : Int32) ∧ (0 : Int32) ≤ (1 : Int32) from ⟨by decide, by decide⟩) hM (fun v7 M8 wv7 hM8 => ?_)
    have wv7 : (0 : Int32) ≤ v7 ∧ v7 ≤ (1 : Int32) := wv7
    refine ok_gd ?_ (fun g20 => ?_)
    · exact okz_of (by grind) (by grind)
    have pf21 : (0 : Int32) ≤ v7 ∧ v7 ≤ (1 : Int32) := by
      exact ⟨by grind, by grind⟩
    exact ok_some ⟨hM8, pf21⟩
theorem s_X7_answer {A : Nat → Nat → Nat → Prop} {B : SS} (M : SS) (hM : IV A B M) (p0 : Int32) (p1 : Int32) (a1 : A 26 0 38) (a2 : A 26 0 39) (a3 : A 26 0 40) (a4 : A 26 0 9) (a5 : ∀ p, p < 960 → A 27 0 p) (a6 : ∀ p, p < 960 → A 28 0 p) (a7 : A 29 0 (p1).toNatClampNeg) (a8 : ∀ p, A 42 0 p) (a9 : ∀ p, A 43 0 p) (a10 : ∀ p, A 44 0 p) (a11 : ∀ p, A 45 0 p) (a12 : ∀ p, A 51 0 p) (a13 : ∀ p, A 53 0 p) (a14 : ∀ p, A 54 0 p) : ok (f_X7_answer M p0 p1) (fun r => IV A B r.1 ∧ (0 : Int32) ≤ r.2 ∧ r.2 ≤ (115 : Int32)) := by
  unfold f_X7_answer
  refine ok_b0 (s_X7_isMember M hM p0) (fun v1 w1 => ?_)
  have w2 : (0 : Int32) ≤ v1 ∧ v1 ≤ (1 : Int32) ∧ ((v1 = 0 ∧ (p0 < 0 ∨ (M.1 26 0 4) ≤ p0)) ∨ (v1 = 1 ∧ 0 ≤ p0 ∧ p0 < (M.1 26 0 4))) := w1
  refine ok_ite (fun q3 => ?_) (fun q3 => ?_)
  · unfold f_X7_answer_J17
    unfold f_X7_answer_J46
    refine ok_lq (fun M5 eq_4 => ?_)
    have hM5 : IV A B M5 := by rw [eq_4]; exact hM.w1 rfl (a4) (show (0 : Int32) ≤ (1 : Int32) ∧ (1 : Int32) ≤ (3 : Int32) from ⟨by decide, by decide⟩)
    refine ok_ite (fun q5 => ?_) (fun q5 => ?_)
    · have c6 : (M5.1 26 0 9) = (1 : Int32) := by rw [eq_4]; exact up_s
      exfalso
      grind
    · have c7 : (M5.1 26 0 9) = (1 : Int32) := by rw [eq_4]; exact up_s
      have pf8 : (0 : Int32) ≤ (0 : Int32) ∧ (0 : Int32) ≤ (115 : Int32) := by
        exact ⟨by grind, by grind⟩
      exact ok_some ⟨hM5, pf8⟩
  · refine ok_b0 (s_X7_isWork M hM p1) (fun v20 w9 => ?_)
    have w10 : (0 : Int32) ≤ v20 ∧ v20 ≤ (1 : Int32) ∧ ((v20 = 0 ∧ (p1 < 0 ∨ (M.1 26 0 5) ≤ p1)) ∨ (v20 = 1 ∧ 0 ≤ p1 ∧ p1 < (M.1 26 0 5))) := w9
    refine ok_ite (fun q11 => ?_) (fun q11 => ?_)
    · unfold f_X7_answer_J17
      unfold f_X7_answer_J46
      refine ok_lq (fun M5 eq_12 => ?_)
      have hM5 : IV A B M5 := by rw [eq_12]; exact hM.w1 rfl (a4) (show (0 : Int32) ≤ (1 : Int32) ∧ (1 : Int32) ≤ (3 : Int32) from ⟨by decide, by decide⟩)
      refine ok_ite (fun q13 => ?_) (fun q13 => ?_)
      · have c14 : (M5.1 26 0 9) = (1 : Int32) := by rw [eq_12]; exact up_s
        exfalso
        grind
      · have c15 : (M5.1 26 0 9) = (1 : Int32) := by rw [eq_12]; exact up_s
        have pf16 : (0 : Int32) ≤ (0 : Int32) ∧ (0 : Int32) ≤ (115 : Int32) := by
          exact ⟨by grind, by grind⟩
        exact ok_some ⟨hM5, pf16⟩
    · refine ok_gd ?_ (fun g17 => ?_)
      · have c18 : (0 : Int32) ≤ (M.1 26 0 5) ∧ (M.1 26 0 5) ≤ (40 : Int32) := hM.at1 26 0 5
        exact vp_of (by decide) (by grind) (show p1 < (40 : Int32) by grind)
      have g17 := vp_to (by decide) g17
      have g17 : (0 : Int32) ≤ p1 ∧ p1 < (40 : Int32) := g17
      refine ok_ite (fun q19 => ?_) (fun q19 => ?_)
      · refine ok_b0 (s_X7_isWhole M hM (40 : Int32) (show (40 : Int32) ≤ (40 : Int32) ∧ (40 : Int32) ≤ (40 : Int32) from ⟨by decide, by decide⟩)) (fun v26 w20 => ?_)
        have w21 : (0 : Int32) ≤ v26 ∧ v26 ≤ (1 : Int32) := w20
        refine ok_ite (fun q22 => ?_) (fun q22 => ?_)
        · unfold f_X7_answer_J41
          unfold f_X7_answer_J46
          refine ok_lq (fun M5 eq_23 => ?_)
          have hM5 : IV A B M5 := by rw [eq_23]; exact hM.w1 rfl (a4) (show (0 : Int32) ≤ (2 : Int32) ∧ (2 : Int32) ≤ (3 : Int32) from ⟨by decide, by decide⟩)
          refine ok_ite (fun q24 => ?_) (fun q24 => ?_)
          · have c25 : (M5.1 26 0 9) = (2 : Int32) := by rw [eq_23]; exact up_s
            exfalso
            grind
          · have c26 : (M5.1 26 0 9) = (2 : Int32) := by rw [eq_23]; exact up_s
            have pf27 : (0 : Int32) ≤ (0 : Int32) ∧ (0 : Int32) ≤ (115 : Int32) := by
              exact ⟨by grind, by grind⟩
            exact ok_some ⟨hM5, pf27⟩
        · unfold f_X7_answer_J46
          refine ok_lq (fun M5 eq_28 => ?_)
          have hM5 : IV A B M5 := by rw [eq_28]; exact hM.w1 rfl (a4) (show (0 : Int32) ≤ (0 : Int32) ∧ (0 : Int32) ≤ (3 : Int32) from ⟨by decide, by decide⟩)
          refine ok_ite (fun q29 => ?_) (fun q29 => ?_)
          · have c30 : (M5.1 26 0 9) = (0 : Int32) := by rw [eq_28]; exact up_s
            have pf31 : (0 : Int32) ≤ p1 ∧ p1 ≤ (39 : Int32) := by
              have c32 : (0 : Int32) ≤ (M.1 26 0 5) ∧ (M.1 26 0 5) ≤ (40 : Int32) := hM.at1 26 0 5
              have c33 : (0 : Int32) ≤ (M.1 42 0 (p1).toNatClampNeg) ∧ (M.1 42 0 (p1).toNatClampNeg) ≤ (65535 : Int32) := hM.at1 42 0 ((p1).toNatClampNeg)
              exact ⟨by grind, by grind⟩
            refine ok_b1 (s_X7_isBody M5 hM5 p1 pf31 (a1) (a2) (a3) (fun p => a13 p) (fun p => a14 p)) (fun M8 v7 w34 => ?_)
            have hM8 : IV A B M8 := w34.1
            have w35 : (0 : Int32) ≤ v7 ∧ v7 ≤ (1 : Int32) := w34.2
            refine ok_ite (fun q36 => ?_) (fun q36 => ?_)
            · have pf37 : (0 : Int32) ≤ (45 : Int32) ∧ (45 : Int32) ≤ (115 : Int32) := by
                exact ⟨by grind, by grind⟩
              exact ok_some ⟨hM8, pf37⟩
            · have pf38 : (0 : Int32) ≤ p1 ∧ p1 ≤ (39 : Int32) := by
                have c39 : (0 : Int32) ≤ (M.1 26 0 5) ∧ (M.1 26 0 5) ≤ (40 : Int32) := hM.at1 26 0 5
                have c40 : (0 : Int32) ≤ (M.1 42 0 (p1).toNatClampNeg) ∧ (M.1 42 0 (p1).toNatClampNeg) ≤ (65535 : Int32) := hM.at1 42 0 ((p1).toNatClampNeg)
                exact ⟨by grind, by grind⟩
              refine ok_b1 (s_X7_copies M8 hM8 (40 : Int32) (show (40 : Int32) ≤ (40 : Int32) ∧ (40 : Int32) ≤ (40 : Int32) from ⟨by decide, by decide⟩) p1 pf38 (fun p h => a5 p h) (fun p h => a6 p h) (a7)) (fun M12 v11 w41 => ?_)
              have hM12 : IV A B M12 := w41.1
              have pf42 : (0 : Int32) ≤ p0 ∧ p0 ≤ (9 : Int32) := by
                have c43 : (0 : Int32) ≤ (M.1 26 0 4) ∧ (M.1 26 0 4) ≤ (10 : Int32) := hM.at1 26 0 4
                exact ⟨by grind, by grind⟩
              have pf44 : (0 : Int32) ≤ p1 ∧ p1 ≤ (39 : Int32) := by
                have c45 : (0 : Int32) ≤ (M.1 26 0 5) ∧ (M.1 26 0 5) ≤ (40 : Int32) := hM.at1 26 0 5
                have c46 : (0 : Int32) ≤ (M.1 42 0 (p1).toNatClampNeg) ∧ (M.1 42 0 (p1).toNatClampNeg) ≤ (65535 : Int32) := hM.at1 42 0 ((p1).toNatClampNeg)
                exact ⟨by grind, by grind⟩
              refine ok_b1 (s_X7_closes M12 hM12 p0 pf42 p1 pf44 (a1) (a2) (a3) (fun p => a8 p) (fun p => a9 p) (fun p => a10 p) (fun p => a11 p) (fun p => a12 p) (fun p => a13 p) (fun p => a14 p)) (fun M15 v14 w47 => ?_)
              have hM15 : IV A B M15 := w47.1
              have w48 : (0 : Int32) ≤ v14 ∧ v14 ≤ (115 : Int32) := w47.2
              refine ok_gd ?_ (fun g49 => ?_)
              · exact okc_of (by grind) (by grind)
              have pf50 : (0 : Int32) ≤ v14 ∧ v14 ≤ (115 : Int32) := by
                exact ⟨by grind, by grind⟩
              exact ok_some ⟨hM15, pf50⟩
          · have c51 : (M5.1 26 0 9) = (0 : Int32) := by rw [eq_28]; exact up_s
            exfalso
            grind
      · unfold f_X7_answer_J41
        unfold f_X7_answer_J46
        refine ok_lq (fun M5 eq_52 => ?_)
        have hM5 : IV A B M5 := by rw [eq_52]; exact hM.w1 rfl (a4) (show (0 : Int32) ≤ (2 : Int32) ∧ (2 : Int32) ≤ (3 : Int32) from ⟨by decide, by decide⟩)
        refine ok_ite (fun q53 => ?_) (fun q53 => ?_)
        · have c54 : (M5.1 26 0 9) = (2 : Int32) := by rw [eq_52]; exact up_s
          exfalso
          grind
        · have c55 : (M5.1 26 0 9) = (2 : Int32) := by rw [eq_52]; exact up_s
          have pf56 : (0 : Int32) ≤ (0 : Int32) ∧ (0 : Int32) ≤ (115 : Int32) := by
            exact ⟨by grind, by grind⟩
          exact ok_some ⟨hM5, pf56⟩
theorem s_X7_open_J77 {A : Nat → Nat → Nat → Prop} {B : SS} (v9 : Int32) (iv9 : (0 : Int32) ≤ v9 ∧ v9 ≤ (39 : Int32)) (M : SS) (hM : IV A B M) (v10 : Int32) (v20 : Int32) (iv20 : (0 : Int32) ≤ v20 ∧ v20 ≤ (1 : Int32)) {n : Nat} (rc : Int32 → Int32 → (Int32 → Option (SS × Int32)) → Option (SS × Int32)) (hrc : ∀ (v9 : Int32) (v10 : Int32) (k7 : (Int32 → Option (SS × Int32))), (FU v9 40 n) → ((0 : Int32) ≤ v9 ∧ v9 ≤ (40 : Int32)) → (∀ (k_0 : Int32), ok (k7 k_0) (fun r => IV A B r.1 ∧ True)) → ok (rc v9 v10 k7) (fun r => IV A B r.1 ∧ True)) (k7 : Int32 → Option (SS × Int32)) (hk : ∀ (k_0 : Int32), ok (k7 k_0) (fun r => IV A B r.1 ∧ True)) (hF : FU v9 40 (n + 1)) : ok (f_X7_open_J77 rc k7 v9 M v10 v20) (fun r => IV A B r.1 ∧ True) := by
  unfold f_X7_open_J77
  refine ok_gd ?_ (fun g1 => ?_)
  · exact vp_of (by decide) (by grind) (show v9 < (40 : Int32) by grind)
  have g1 := vp_to (by decide) g1
  have g1 : (0 : Int32) ≤ v9 ∧ v9 < (40 : Int32) := g1
  refine ok_ite (fun q2 => ?_) (fun q2 => ?_)
  · refine ok_ite (fun q3 => ?_) (fun q3 => ?_)
    · refine ok_lq (fun v26 eq_4 => ?_)
      have pf5 : FU (v9 + (1 : Int32)) 40 n := by
        have c6 : (0 : Int32) ≤ (M.1 42 0 (v9).toNatClampNeg) ∧ (M.1 42 0 (v9).toNatClampNeg) ≤ (65535 : Int32) := hM.at1 42 0 ((v9).toNatClampNeg)
        exact FU.step hF (by grind)
      have pf7 : (0 : Int32) ≤ (v9 + (1 : Int32)) ∧ (v9 + (1 : Int32)) ≤ (40 : Int32) := by
        have c8 : (0 : Int32) ≤ (M.1 42 0 (v9).toNatClampNeg) ∧ (M.1 42 0 (v9).toNatClampNeg) ≤ (65535 : Int32) := hM.at1 42 0 ((v9).toNatClampNeg)
        exact ⟨by grind, by grind⟩
      exact hrc (v9 + (1 : Int32)) v26 k7 pf5 pf7 hk
    · refine ok_lq (fun v27 eq_9 => ?_)
      have pf10 : FU (v9 + (1 : Int32)) 40 n := by
        have c11 : (0 : Int32) ≤ (M.1 42 0 (v9).toNatClampNeg) ∧ (M.1 42 0 (v9).toNatClampNeg) ≤ (65535 : Int32) := hM.at1 42 0 ((v9).toNatClampNeg)
        exact FU.step hF (by grind)
      have pf12 : (0 : Int32) ≤ (v9 + (1 : Int32)) ∧ (v9 + (1 : Int32)) ≤ (40 : Int32) := by
        have c13 : (0 : Int32) ≤ (M.1 42 0 (v9).toNatClampNeg) ∧ (M.1 42 0 (v9).toNatClampNeg) ≤ (65535 : Int32) := hM.at1 42 0 ((v9).toNatClampNeg)
        exact ⟨by grind, by grind⟩
      exact hrc (v9 + (1 : Int32)) v27 k7 pf10 pf12 hk
  · refine ok_lq (fun v24 eq_14 => ?_)
    have pf15 : FU (v9 + (1 : Int32)) 40 n := by
      have c16 : (0 : Int32) ≤ (M.1 42 0 (v9).toNatClampNeg) ∧ (M.1 42 0 (v9).toNatClampNeg) ≤ (65535 : Int32) := hM.at1 42 0 ((v9).toNatClampNeg)
      exact FU.step hF (by grind)
    have pf17 : (0 : Int32) ≤ (v9 + (1 : Int32)) ∧ (v9 + (1 : Int32)) ≤ (40 : Int32) := by
      have c18 : (0 : Int32) ≤ (M.1 42 0 (v9).toNatClampNeg) ∧ (M.1 42 0 (v9).toNatClampNeg) ≤ (65535 : Int32) := hM.at1 42 0 ((v9).toNatClampNeg)
      exact ⟨by grind, by grind⟩
    exact hrc (v9 + (1 : Int32)) v24 k7 pf15 pf17 hk
theorem s_X7_open_J72 {A : Nat → Nat → Nat → Prop} {B : SS} (v9 : Int32) (iv9 : (0 : Int32) ≤ v9 ∧ v9 ≤ (39 : Int32)) (M : SS) (hM : IV A B M) (v10 : Int32) {n : Nat} (rc : Int32 → Int32 → (Int32 → Option (SS × Int32)) → Option (SS × Int32)) (hrc : ∀ (v9 : Int32) (v10 : Int32) (k7 : (Int32 → Option (SS × Int32))), (FU v9 40 n) → ((0 : Int32) ≤ v9 ∧ v9 ≤ (40 : Int32)) → (∀ (k_0 : Int32), ok (k7 k_0) (fun r => IV A B r.1 ∧ True)) → ok (rc v9 v10 k7) (fun r => IV A B r.1 ∧ True)) (k7 : Int32 → Option (SS × Int32)) (hk : ∀ (k_0 : Int32), ok (k7 k_0) (fun r => IV A B r.1 ∧ True)) (hF : FU v9 40 (n + 1)) : ok (f_X7_open_J72 rc k7 v9 M v10) (fun r => IV A B r.1 ∧ True) := by
  unfold f_X7_open_J72
  have pf1 : (0 : Int32) ≤ v9 ∧ v9 ≤ (39 : Int32) := by
    exact ⟨by grind, by grind⟩
  exact s_X7_open_J77 v9 pf1 M hM v10 (1 : Int32) (show (0 : Int32) ≤ (1 : Int32) ∧ (1 : Int32) ≤ (1 : Int32) from ⟨by decide, by decide⟩) rc hrc k7 hk hF
theorem s_X7_open_J76 {A : Nat → Nat → Nat → Prop} {B : SS} (v9 : Int32) (iv9 : (0 : Int32) ≤ v9 ∧ v9 ≤ (39 : Int32)) (M : SS) (hM : IV A B M) (v10 : Int32) {n : Nat} (rc : Int32 → Int32 → (Int32 → Option (SS × Int32)) → Option (SS × Int32)) (hrc : ∀ (v9 : Int32) (v10 : Int32) (k7 : (Int32 → Option (SS × Int32))), (FU v9 40 n) → ((0 : Int32) ≤ v9 ∧ v9 ≤ (40 : Int32)) → (∀ (k_0 : Int32), ok (k7 k_0) (fun r => IV A B r.1 ∧ True)) → ok (rc v9 v10 k7) (fun r => IV A B r.1 ∧ True)) (k7 : Int32 → Option (SS × Int32)) (hk : ∀ (k_0 : Int32), ok (k7 k_0) (fun r => IV A B r.1 ∧ True)) (hF : FU v9 40 (n + 1)) : ok (f_X7_open_J76 rc k7 v9 M v10) (fun r => IV A B r.1 ∧ True) := by
  unfold f_X7_open_J76
  have pf1 : (0 : Int32) ≤ v9 ∧ v9 ≤ (39 : Int32) := by
    exact ⟨by grind, by grind⟩
  exact s_X7_open_J77 v9 pf1 M hM v10 (0 : Int32) (show (0 : Int32) ≤ (0 : Int32) ∧ (0 : Int32) ≤ (1 : Int32) from ⟨by decide, by decide⟩) rc hrc k7 hk hF
theorem s_X7_open_L15 {A : Nat → Nat → Nat → Prop} {B : SS} (M : SS) (hM : IV A B M) (v2 : Int32) (iv2 : (0 : Int32) ≤ v2 ∧ v2 ≤ (39 : Int32)) : ∀ (n : Nat), ∀ (v9 : Int32) (v10 : Int32) (k7 : (Int32 → Option (SS × Int32))), (FU v9 40 n) → ((0 : Int32) ≤ v9 ∧ v9 ≤ (40 : Int32)) → (∀ (k_0 : Int32), ok (k7 k_0) (fun r => IV A B r.1 ∧ True)) → ok (f_X7_open_L15 M v2 n v9 v10 k7) (fun r => IV A B r.1 ∧ True) := by
  intro n
  induction n with
  | zero =>
    intro v9 v10 k7 hF iv9 hk
    exact (FU.stop hF (show v9 ≤ (40 : Int32) by grind)).elim
  | succ n ih =>
    intro v9 v10 k7 hF iv9 hk
    rw [f_X7_open_L15]
    refine ok_ite (fun q1 => ?_) (fun q1 => ?_)
    · exact hk v10
    · refine ok_gd ?_ (fun g2 => ?_)
      · have c3 : (0 : Int32) ≤ (M.1 26 0 5) ∧ (M.1 26 0 5) ≤ (40 : Int32) := hM.at1 26 0 5
        exact vp_of (by decide) (by grind) (show v9 < (40 : Int32) by grind)
      have g2 := vp_to (by decide) g2
      have g2 : (0 : Int32) ≤ v9 ∧ v9 < (40 : Int32) := g2
      refine ok_gd ?_ (fun g4 => ?_)
      · exact vp_of (by decide) (by grind) (show v2 < (40 : Int32) by grind)
      have g4 := vp_to (by decide) g4
      have g4 : (0 : Int32) ≤ v2 ∧ v2 < (40 : Int32) := g4
      refine ok_ite (fun q5 => ?_) (fun q5 => ?_)
      · have pf6 : (0 : Int32) ≤ v9 ∧ v9 ≤ (39 : Int32) := by
          have c7 : (0 : Int32) ≤ (M.1 26 0 5) ∧ (M.1 26 0 5) ≤ (40 : Int32) := hM.at1 26 0 5
          exact ⟨by grind, by grind⟩
        exact s_X7_open_J72 v9 pf6 M hM v10 (f_X7_open_L15 M v2 n) ih k7 hk hF
      · refine ok_gd ?_ (fun g8 => ?_)
        · have c9 : (0 : Int32) ≤ (M.1 26 0 5) ∧ (M.1 26 0 5) ≤ (40 : Int32) := hM.at1 26 0 5
          exact vp_of (by decide) (by grind) (show v9 < (40 : Int32) by grind)
        have g8 := vp_to (by decide) g8
        have g8 : (0 : Int32) ≤ v9 ∧ v9 < (40 : Int32) := g8
        refine ok_gd ?_ (fun g10 => ?_)
        · have c11 : (0 : Int32) ≤ (M.1 26 0 5) ∧ (M.1 26 0 5) ≤ (40 : Int32) := hM.at1 26 0 5
          exact vp_of (by decide) (by grind) (show v2 < (40 : Int32) by grind)
        have g10 := vp_to (by decide) g10
        have g10 : (0 : Int32) ≤ v2 ∧ v2 < (40 : Int32) := g10
        refine ok_ite (fun q12 => ?_) (fun q12 => ?_)
        · refine ok_gd ?_ (fun g13 => ?_)
          · have c14 : (0 : Int32) ≤ (M.1 26 0 5) ∧ (M.1 26 0 5) ≤ (40 : Int32) := hM.at1 26 0 5
            exact vp_of (by decide) (by grind) (show v9 < (40 : Int32) by grind)
          have g13 := vp_to (by decide) g13
          have g13 : (0 : Int32) ≤ v9 ∧ v9 < (40 : Int32) := g13
          refine ok_gd ?_ (fun g15 => ?_)
          · have c16 : (0 : Int32) ≤ (M.1 26 0 5) ∧ (M.1 26 0 5) ≤ (40 : Int32) := hM.at1 26 0 5
            exact vp_of (by decide) (by grind) (show v2 < (40 : Int32) by grind)
          have g15 := vp_to (by decide) g15
          have g15 : (0 : Int32) ≤ v2 ∧ v2 < (40 : Int32) := g15
          refine ok_ite (fun q17 => ?_) (fun q17 => ?_)
          · have pf18 : (0 : Int32) ≤ v9 ∧ v9 ≤ (39 : Int32) := by
              have c19 : (0 : Int32) ≤ (M.1 26 0 5) ∧ (M.1 26 0 5) ≤ (40 : Int32) := hM.at1 26 0 5
              exact ⟨by grind, by grind⟩
            exact s_X7_open_J76 v9 pf18 M hM v10 (f_X7_open_L15 M v2 n) ih k7 hk hF
          · have pf20 : (0 : Int32) ≤ v9 ∧ v9 ≤ (39 : Int32) := by
              have c21 : (0 : Int32) ≤ (M.1 26 0 5) ∧ (M.1 26 0 5) ≤ (40 : Int32) := hM.at1 26 0 5
              exact ⟨by grind, by grind⟩
            exact s_X7_open_J72 v9 pf20 M hM v10 (f_X7_open_L15 M v2 n) ih k7 hk hF
        · have pf22 : (0 : Int32) ≤ v9 ∧ v9 ≤ (39 : Int32) := by
            have c23 : (0 : Int32) ≤ (M.1 26 0 5) ∧ (M.1 26 0 5) ≤ (40 : Int32) := hM.at1 26 0 5
            exact ⟨by grind, by grind⟩
          exact s_X7_open_J76 v9 pf22 M hM v10 (f_X7_open_L15 M v2 n) ih k7 hk hF
theorem s_X7_open_L2 {A : Nat → Nat → Nat → Prop} {B : SS} (M : SS) (hM : IV A B M) (p0 : Int32) (a1 : A 26 0 9) : ∀ (n : Nat), ∀ (v2 : Int32) (k1 : (Unit → Option (SS × Int32))), (FU v2 40 n) → ((0 : Int32) ≤ v2 ∧ v2 ≤ (40 : Int32)) → (∀ (k_0 : Unit), ok (k1 k_0) (fun r => IV A B r.1 ∧ True)) → ok (f_X7_open_L2 M p0 n v2 k1) (fun r => IV A B r.1 ∧ True) := by
  intro n
  induction n with
  | zero =>
    intro v2 k1 hF iv2 hk
    exact (FU.stop hF (show v2 ≤ (40 : Int32) by grind)).elim
  | succ n ih =>
    intro v2 k1 hF iv2 hk
    rw [f_X7_open_L2]
    refine ok_ite (fun q1 => ?_) (fun q1 => ?_)
    · exact hk ()
    · have pf2 : (0 : Int32) ≤ v2 ∧ v2 ≤ (39 : Int32) := by
        have c3 : (0 : Int32) ≤ (M.1 26 0 5) ∧ (M.1 26 0 5) ≤ (40 : Int32) := hM.at1 26 0 5
        exact ⟨by grind, by grind⟩
      have pf4 : FU (0 : Int32) 40 1000 := by
        exact FU.start (by grind) (by decide)
      refine s_X7_open_L15 M hM v2 pf2 1000 (0 : Int32) (0 : Int32) _ pf4 (show (0 : Int32) ≤ (0 : Int32) ∧ (0 : Int32) ≤ (40 : Int32) from ⟨by decide, by decide⟩) (fun v8 => ?_)
      refine ok_gd ?_ (fun g5 => ?_)
      · have c6 : (0 : Int32) ≤ (M.1 26 0 5) ∧ (M.1 26 0 5) ≤ (40 : Int32) := hM.at1 26 0 5
        exact vp_of (by decide) (by grind) (show v2 < (40 : Int32) by grind)
      have g5 := vp_to (by decide) g5
      have g5 : (0 : Int32) ≤ v2 ∧ v2 < (40 : Int32) := g5
      refine ok_ite (fun q7 => ?_) (fun q7 => ?_)
      · refine ok_ite (fun q8 => ?_) (fun q8 => ?_)
        · refine ok_b1 (s_X7_tells M hM v2 (a1)) (fun M15 v14 w9 => ?_)
          have hM15 : IV A B M15 := w9.1
          exact ok_some ⟨hM15, trivial⟩
        · have pf10 : FU (v2 + (1 : Int32)) 40 n := by
            have c11 : (0 : Int32) ≤ (M.1 26 0 5) ∧ (M.1 26 0 5) ≤ (40 : Int32) := hM.at1 26 0 5
            have c12 : (0 : Int32) ≤ (M.1 42 0 (v2).toNatClampNeg) ∧ (M.1 42 0 (v2).toNatClampNeg) ≤ (65535 : Int32) := hM.at1 42 0 ((v2).toNatClampNeg)
            exact FU.step hF (by grind)
          have pf13 : (0 : Int32) ≤ (v2 + (1 : Int32)) ∧ (v2 + (1 : Int32)) ≤ (40 : Int32) := by
            have c14 : (0 : Int32) ≤ (M.1 26 0 5) ∧ (M.1 26 0 5) ≤ (40 : Int32) := hM.at1 26 0 5
            have c15 : (0 : Int32) ≤ (M.1 42 0 (v2).toNatClampNeg) ∧ (M.1 42 0 (v2).toNatClampNeg) ≤ (65535 : Int32) := hM.at1 42 0 ((v2).toNatClampNeg)
            exact ⟨by grind, by grind⟩
          exact ih (v2 + (1 : Int32)) k1 pf10 pf13 hk
      · have pf16 : FU (v2 + (1 : Int32)) 40 n := by
          have c17 : (0 : Int32) ≤ (M.1 26 0 5) ∧ (M.1 26 0 5) ≤ (40 : Int32) := hM.at1 26 0 5
          have c18 : (0 : Int32) ≤ (M.1 42 0 (v2).toNatClampNeg) ∧ (M.1 42 0 (v2).toNatClampNeg) ≤ (65535 : Int32) := hM.at1 42 0 ((v2).toNatClampNeg)
          exact FU.step hF (by grind)
        have pf19 : (0 : Int32) ≤ (v2 + (1 : Int32)) ∧ (v2 + (1 : Int32)) ≤ (40 : Int32) := by
          have c20 : (0 : Int32) ≤ (M.1 26 0 5) ∧ (M.1 26 0 5) ≤ (40 : Int32) := hM.at1 26 0 5
          have c21 : (0 : Int32) ≤ (M.1 42 0 (v2).toNatClampNeg) ∧ (M.1 42 0 (v2).toNatClampNeg) ≤ (65535 : Int32) := hM.at1 42 0 ((v2).toNatClampNeg)
          exact ⟨by grind, by grind⟩
        exact ih (v2 + (1 : Int32)) k1 pf16 pf19 hk
theorem s_X7_open {A : Nat → Nat → Nat → Prop} {B : SS} (M : SS) (hM : IV A B M) (p0 : Int32) (a1 : A 26 0 9) : ok (f_X7_open M p0) (fun r => IV A B r.1 ∧ True) := by
  unfold f_X7_open
  have pf1 : FU (0 : Int32) 40 1000 := by
    exact FU.start (by grind) (by decide)
  refine s_X7_open_L2 M hM p0 (a1) 1000 (0 : Int32) _ pf1 (show (0 : Int32) ≤ (0 : Int32) ∧ (0 : Int32) ≤ (40 : Int32) from ⟨by decide, by decide⟩) (fun _ => ?_)
  refine ok_b1 (s_X7_fails M hM (1 : Int32) (show (1 : Int32) ≤ (1 : Int32) ∧ (1 : Int32) ≤ (3 : Int32) from ⟨by decide, by decide⟩) (a1)) (fun M4 v3 w2 => ?_)
  have hM4 : IV A B M4 := w2.1
  have w3 : (0 : Int32) ≤ v3 ∧ v3 ≤ (0 : Int32) := w2.2
  exact ok_some ⟨hM4, trivial⟩
theorem s_X7_left {A : Nat → Nat → Nat → Prop} {B : SS} (M : SS) (hM : IV A B M) (p0 : Int32) (a1 : A 26 0 9) : ok (f_X7_left M p0) (fun r => IV A B r.1 ∧ True) := by
  unfold f_X7_left
  refine ok_b0 (s_X7_isWork M hM p0) (fun v1 w1 => ?_)
  have w2 : (0 : Int32) ≤ v1 ∧ v1 ≤ (1 : Int32) ∧ ((v1 = 0 ∧ (p0 < 0 ∨ (M.1 26 0 5) ≤ p0)) ∨ (v1 = 1 ∧ 0 ≤ p0 ∧ p0 < (M.1 26 0 5))) := w1
  refine ok_ite (fun q3 => ?_) (fun q3 => ?_)
  · refine ok_b1 (s_X7_fails M hM (1 : Int32) (show (1 : Int32) ≤ (1 : Int32) ∧ (1 : Int32) ≤ (3 : Int32) from ⟨by decide, by decide⟩) (a1)) (fun M14 v13 w4 => ?_)
    have hM14 : IV A B M14 := w4.1
    have w5 : (0 : Int32) ≤ v13 ∧ v13 ≤ (0 : Int32) := w4.2
    exact ok_some ⟨hM14, trivial⟩
  · refine ok_gd ?_ (fun g6 => ?_)
    · have c7 : (0 : Int32) ≤ (M.1 26 0 5) ∧ (M.1 26 0 5) ≤ (40 : Int32) := hM.at1 26 0 5
      exact vp_of (by decide) (by grind) (show p0 < (40 : Int32) by grind)
    have g6 := vp_to (by decide) g6
    have g6 : (0 : Int32) ≤ p0 ∧ p0 < (40 : Int32) := g6
    refine ok_ite (fun q8 => ?_) (fun q8 => ?_)
    · refine ok_gd ?_ (fun g9 => ?_)
      · have c10 : (0 : Int32) ≤ (M.1 26 0 5) ∧ (M.1 26 0 5) ≤ (40 : Int32) := hM.at1 26 0 5
        have c11 : (0 : Int32) ≤ (M.1 42 0 (p0).toNatClampNeg) ∧ (M.1 42 0 (p0).toNatClampNeg) ≤ (65535 : Int32) := hM.at1 42 0 ((p0).toNatClampNeg)
        exact vp_of (by decide) (by grind) (show p0 < (40 : Int32) by grind)
      have g9 := vp_to (by decide) g9
      have g9 : (0 : Int32) ≤ p0 ∧ p0 < (40 : Int32) := g9
      refine ok_b1 (s_X7_tells M hM (M.1 49 0 (p0).toNatClampNeg) (a1)) (fun M11 v10 w12 => ?_)
      have hM11 : IV A B M11 := w12.1
      exact ok_some ⟨hM11, trivial⟩
    · refine ok_b1 (s_X7_fails M hM (2 : Int32) (show (1 : Int32) ≤ (2 : Int32) ∧ (2 : Int32) ≤ (3 : Int32) from ⟨by decide, by decide⟩) (a1)) (fun M7 v6 w13 => ?_)
      have hM7 : IV A B M7 := w13.1
      have w14 : (0 : Int32) ≤ v6 ∧ v6 ≤ (0 : Int32) := w13.2
      exact ok_some ⟨hM7, trivial⟩
theorem s_X7_days_L20 {A : Nat → Nat → Nat → Prop} {B : SS} (p0 : Int32) (ip0 : (1 : Int32) ≤ p0 ∧ p0 ≤ (30 : Int32)) (a1 : ∀ p, A 42 0 p) (a2 : ∀ p, A 49 0 p) (a3 : ∀ p, A 51 0 p) : ∀ (n : Nat), ∀ (v7 : Int32) (v8 : Int32) (M9 : SS) (k4 : (Int32 → SS → Option (SS × Int32))), (FU v7 40 n) → ((0 : Int32) ≤ v7 ∧ v7 ≤ (40 : Int32)) → (IV A B M9) → (∀ (k_0 : Int32) (k_1 : SS), (IV A B k_1) → ok (k4 k_0 k_1) (fun r => IV A B r.1 ∧ True)) → ok (f_X7_days_L20 p0 n v7 v8 M9 k4) (fun r => IV A B r.1 ∧ True) := by
  intro n
  induction n with
  | zero =>
    intro v7 v8 M9 k4 hF iv7 hM9 hk
    exact (FU.stop hF (show v7 ≤ (40 : Int32) by grind)).elim
  | succ n ih =>
    intro v7 v8 M9 k4 hF iv7 hM9 hk
    rw [f_X7_days_L20]
    refine ok_ite (fun q1 => ?_) (fun q1 => ?_)
    · exact hk v8 M9 hM9
    · refine ok_gd ?_ (fun g2 => ?_)
      · have c3 : (0 : Int32) ≤ (M9.1 26 0 5) ∧ (M9.1 26 0 5) ≤ (40 : Int32) := hM9.at1 26 0 5
        exact vp_of (by decide) (by grind) (show v7 < (40 : Int32) by grind)
      have g2 := vp_to (by decide) g2
      have g2 : (0 : Int32) ≤ v7 ∧ v7 < (40 : Int32) := g2
      refine ok_gd ?_ (fun g4 => ?_)
      · have c5 : (0 : Int32) ≤ (M9.1 26 0 5) ∧ (M9.1 26 0 5) ≤ (40 : Int32) := hM9.at1 26 0 5
        exact vp_of (by decide) (by grind) (show v7 < (40 : Int32) by grind)
      have g4 := vp_to (by decide) g4
      have g4 : (0 : Int32) ≤ v7 ∧ v7 < (40 : Int32) := g4
      refine ok_lq (fun M16 eq_6 => ?_)
      have hM16 : IV A B M16 := by rw [eq_6]; exact hM9.w1f rfl (a2 ((v7).toNatClampNeg)) rfl
      refine ok_gd ?_ (fun g7 => ?_)
      · have c8 : (0 : Int32) ≤ (M9.1 26 0 5) ∧ (M9.1 26 0 5) ≤ (40 : Int32) := hM9.at1 26 0 5
        exact vp_of (by decide) (by grind) (show v7 < (40 : Int32) by grind)
      have g7 := vp_to (by decide) g7
      have g7 : (0 : Int32) ≤ v7 ∧ v7 < (40 : Int32) := g7
      refine ok_ite (fun q9 => ?_) (fun q9 => ?_)
      · refine ok_gd ?_ (fun g10 => ?_)
        · have c11 : (0 : Int32) ≤ (M9.1 26 0 5) ∧ (M9.1 26 0 5) ≤ (40 : Int32) := hM9.at1 26 0 5
          have c12 : (0 : Int32) ≤ (M16.1 42 0 (v7).toNatClampNeg) ∧ (M16.1 42 0 (v7).toNatClampNeg) ≤ (65535 : Int32) := hM16.at1 42 0 ((v7).toNatClampNeg)
          have c13 : (M16.1 42 0 (v7).toNatClampNeg) = (M9.1 42 0 (v7).toNatClampNeg) := by rw [eq_6]; exact up_k (by decide)
          have c14 : (0 : Int32) ≤ (M9.1 42 0 (v7).toNatClampNeg) ∧ (M9.1 42 0 (v7).toNatClampNeg) ≤ (65535 : Int32) := hM9.at1 42 0 ((v7).toNatClampNeg)
          exact vp_of (by decide) (by grind) (show v7 < (40 : Int32) by grind)
        have g10 := vp_to (by decide) g10
        have g10 : (0 : Int32) ≤ v7 ∧ v7 < (40 : Int32) := g10
        refine ok_ite (fun q15 => ?_) (fun q15 => ?_)
        · have c16 : (M16.1 49 0 (v7).toNatClampNeg) = ((M9.1 49 0 (v7).toNatClampNeg) - p0) := by rw [eq_6]; exact up_s
          have pf17 : FU (v7 + (1 : Int32)) 40 n := by
            have c18 : (0 : Int32) ≤ (M9.1 26 0 5) ∧ (M9.1 26 0 5) ≤ (40 : Int32) := hM9.at1 26 0 5
            have c19 : (0 : Int32) ≤ (M16.1 42 0 (v7).toNatClampNeg) ∧ (M16.1 42 0 (v7).toNatClampNeg) ≤ (65535 : Int32) := hM16.at1 42 0 ((v7).toNatClampNeg)
            have c20 : (M16.1 42 0 (v7).toNatClampNeg) = (M9.1 42 0 (v7).toNatClampNeg) := by rw [eq_6]; exact up_k (by decide)
            have c21 : (M16.1 49 0 (v7).toNatClampNeg) = ((M9.1 49 0 (v7).toNatClampNeg) - p0) := by rw [eq_6]; exact up_s
            have c22 : (0 : Int32) ≤ (M9.1 42 0 (v7).toNatClampNeg) ∧ (M9.1 42 0 (v7).toNatClampNeg) ≤ (65535 : Int32) := hM9.at1 42 0 ((v7).toNatClampNeg)
            exact FU.step hF (by grind)
          have pf23 : (0 : Int32) ≤ (v7 + (1 : Int32)) ∧ (v7 + (1 : Int32)) ≤ (40 : Int32) := by
            have c24 : (0 : Int32) ≤ (M9.1 26 0 5) ∧ (M9.1 26 0 5) ≤ (40 : Int32) := hM9.at1 26 0 5
            have c25 : (0 : Int32) ≤ (M16.1 42 0 (v7).toNatClampNeg) ∧ (M16.1 42 0 (v7).toNatClampNeg) ≤ (65535 : Int32) := hM16.at1 42 0 ((v7).toNatClampNeg)
            have c26 : (M16.1 42 0 (v7).toNatClampNeg) = (M9.1 42 0 (v7).toNatClampNeg) := by rw [eq_6]; exact up_k (by decide)
            have c27 : (M16.1 49 0 (v7).toNatClampNeg) = ((M9.1 49 0 (v7).toNatClampNeg) - p0) := by rw [eq_6]; exact up_s
            have c28 : (0 : Int32) ≤ (M9.1 42 0 (v7).toNatClampNeg) ∧ (M9.1 42 0 (v7).toNatClampNeg) ≤ (65535 : Int32) := hM9.at1 42 0 ((v7).toNatClampNeg)
            exact ⟨by grind, by grind⟩
          exact ih (v7 + (1 : Int32)) v8 M16 k4 pf17 pf23 hM16 hk
        · have c29 : (M16.1 49 0 (v7).toNatClampNeg) = ((M9.1 49 0 (v7).toNatClampNeg) - p0) := by rw [eq_6]; exact up_s
          refine ok_gd ?_ (fun g30 => ?_)
          · have c31 : (0 : Int32) ≤ (M9.1 26 0 5) ∧ (M9.1 26 0 5) ≤ (40 : Int32) := hM9.at1 26 0 5
            have c32 : (0 : Int32) ≤ (M16.1 42 0 (v7).toNatClampNeg) ∧ (M16.1 42 0 (v7).toNatClampNeg) ≤ (65535 : Int32) := hM16.at1 42 0 ((v7).toNatClampNeg)
            have c33 : (M16.1 42 0 (v7).toNatClampNeg) = (M9.1 42 0 (v7).toNatClampNeg) := by rw [eq_6]; exact up_k (by decide)
            have c34 : (M16.1 49 0 (v7).toNatClampNeg) = ((M9.1 49 0 (v7).toNatClampNeg) - p0) := by rw [eq_6]; exact up_s
            have c35 : (0 : Int32) ≤ (M9.1 42 0 (v7).toNatClampNeg) ∧ (M9.1 42 0 (v7).toNatClampNeg) ≤ (65535 : Int32) := hM9.at1 42 0 ((v7).toNatClampNeg)
            exact vp_of (by decide) (by grind) (show v7 < (40 : Int32) by grind)
          have g30 := vp_to (by decide) g30
          have g30 : (0 : Int32) ≤ v7 ∧ v7 < (40 : Int32) := g30
          refine ok_lq (fun M22 eq_36 => ?_)
          have pf37 : (0 : Int32) ≤ (vp_nar .char (98 : Int32)) ∧ (vp_nar .char (98 : Int32)) ≤ (65535 : Int32) := by
            have c38 : (vp_nar .char (98 : Int32)) = (98 : Int32) := by decide
            exact ⟨by grind, by grind⟩
          have hM22 : IV A B M22 := by rw [eq_36]; exact hM16.w1 rfl (a1 ((v7).toNatClampNeg)) pf37
          refine ok_gd ?_ (fun g39 => ?_)
          · have c40 : (0 : Int32) ≤ (M9.1 26 0 5) ∧ (M9.1 26 0 5) ≤ (40 : Int32) := hM9.at1 26 0 5
            have c41 : (0 : Int32) ≤ (M16.1 42 0 (v7).toNatClampNeg) ∧ (M16.1 42 0 (v7).toNatClampNeg) ≤ (65535 : Int32) := hM16.at1 42 0 ((v7).toNatClampNeg)
            have c42 : (M16.1 42 0 (v7).toNatClampNeg) = (M9.1 42 0 (v7).toNatClampNeg) := by rw [eq_6]; exact up_k (by decide)
            have c43 : (M16.1 49 0 (v7).toNatClampNeg) = ((M9.1 49 0 (v7).toNatClampNeg) - p0) := by rw [eq_6]; exact up_s
            have c44 : (0 : Int32) ≤ (M9.1 42 0 (v7).toNatClampNeg) ∧ (M9.1 42 0 (v7).toNatClampNeg) ≤ (65535 : Int32) := hM9.at1 42 0 ((v7).toNatClampNeg)
            exact vp_of (by decide) (by grind) (show v7 < (40 : Int32) by grind)
          have g39 := vp_to (by decide) g39
          have g39 : (0 : Int32) ≤ v7 ∧ v7 < (40 : Int32) := g39
          refine ok_gd ?_ (fun g45 => ?_)
          · have c46 : (vp_nar .char (98 : Int32)) = (98 : Int32) := by decide
            have c47 : (0 : Int32) ≤ (M22.1 48 0 (v7).toNatClampNeg) ∧ (M22.1 48 0 (v7).toNatClampNeg) ≤ (9 : Int32) := hM22.at1 48 0 ((v7).toNatClampNeg)
            have c48 : (M22.1 48 0 (v7).toNatClampNeg) = (M16.1 48 0 (v7).toNatClampNeg) := by rw [eq_36]; exact up_k (by decide)
            have c49 : (0 : Int32) ≤ (M9.1 26 0 5) ∧ (M9.1 26 0 5) ≤ (40 : Int32) := hM9.at1 26 0 5
            have c50 : (0 : Int32) ≤ (M16.1 42 0 (v7).toNatClampNeg) ∧ (M16.1 42 0 (v7).toNatClampNeg) ≤ (65535 : Int32) := hM16.at1 42 0 ((v7).toNatClampNeg)
            have c51 : (M16.1 42 0 (v7).toNatClampNeg) = (M9.1 42 0 (v7).toNatClampNeg) := by rw [eq_6]; exact up_k (by decide)
            have c52 : (M16.1 49 0 (v7).toNatClampNeg) = ((M9.1 49 0 (v7).toNatClampNeg) - p0) := by rw [eq_6]; exact up_s
            have c53 : (0 : Int32) ≤ (M16.1 48 0 (v7).toNatClampNeg) ∧ (M16.1 48 0 (v7).toNatClampNeg) ≤ (9 : Int32) := hM16.at1 48 0 ((v7).toNatClampNeg)
            have c54 : (M16.1 48 0 (v7).toNatClampNeg) = (M9.1 48 0 (v7).toNatClampNeg) := by rw [eq_6]; exact up_k (by decide)
            have c55 : (0 : Int32) ≤ (M9.1 42 0 (v7).toNatClampNeg) ∧ (M9.1 42 0 (v7).toNatClampNeg) ≤ (65535 : Int32) := hM9.at1 42 0 ((v7).toNatClampNeg)
            have c56 : (0 : Int32) ≤ (M9.1 48 0 (v7).toNatClampNeg) ∧ (M9.1 48 0 (v7).toNatClampNeg) ≤ (9 : Int32) := hM9.at1 48 0 ((v7).toNatClampNeg)
            exact vp_of (by decide) (by grind) (show (M22.1 48 0 (v7).toNatClampNeg) < (10 : Int32) by grind)
          have g45 := vp_to (by decide) g45
          have g45 : (0 : Int32) ≤ (M22.1 48 0 (v7).toNatClampNeg) ∧ (M22.1 48 0 (v7).toNatClampNeg) < (10 : Int32) := g45
          refine ok_gd ?_ (fun g57 => ?_)
          · have c58 : (vp_nar .char (98 : Int32)) = (98 : Int32) := by decide
            have c59 : (0 : Int32) ≤ (M22.1 48 0 (v7).toNatClampNeg) ∧ (M22.1 48 0 (v7).toNatClampNeg) ≤ (9 : Int32) := hM22.at1 48 0 ((v7).toNatClampNeg)
            have c60 : (M22.1 48 0 (v7).toNatClampNeg) = (M16.1 48 0 (v7).toNatClampNeg) := by rw [eq_36]; exact up_k (by decide)
            have c61 : (0 : Int32) ≤ (M9.1 26 0 5) ∧ (M9.1 26 0 5) ≤ (40 : Int32) := hM9.at1 26 0 5
            have c62 : (0 : Int32) ≤ (M16.1 42 0 (v7).toNatClampNeg) ∧ (M16.1 42 0 (v7).toNatClampNeg) ≤ (65535 : Int32) := hM16.at1 42 0 ((v7).toNatClampNeg)
            have c63 : (M16.1 42 0 (v7).toNatClampNeg) = (M9.1 42 0 (v7).toNatClampNeg) := by rw [eq_6]; exact up_k (by decide)
            have c64 : (M16.1 49 0 (v7).toNatClampNeg) = ((M9.1 49 0 (v7).toNatClampNeg) - p0) := by rw [eq_6]; exact up_s
            have c65 : (0 : Int32) ≤ (M16.1 48 0 (v7).toNatClampNeg) ∧ (M16.1 48 0 (v7).toNatClampNeg) ≤ (9 : Int32) := hM16.at1 48 0 ((v7).toNatClampNeg)
            have c66 : (M16.1 48 0 (v7).toNatClampNeg) = (M9.1 48 0 (v7).toNatClampNeg) := by rw [eq_6]; exact up_k (by decide)
            have c67 : (0 : Int32) ≤ (M9.1 42 0 (v7).toNatClampNeg) ∧ (M9.1 42 0 (v7).toNatClampNeg) ≤ (65535 : Int32) := hM9.at1 42 0 ((v7).toNatClampNeg)
            have c68 : (0 : Int32) ≤ (M9.1 48 0 (v7).toNatClampNeg) ∧ (M9.1 48 0 (v7).toNatClampNeg) ≤ (9 : Int32) := hM9.at1 48 0 ((v7).toNatClampNeg)
            exact vp_of (by decide) (by grind) (show (M22.1 48 0 (v7).toNatClampNeg) < (10 : Int32) by grind)
          have g57 := vp_to (by decide) g57
          have g57 : (0 : Int32) ≤ (M22.1 48 0 (v7).toNatClampNeg) ∧ (M22.1 48 0 (v7).toNatClampNeg) < (10 : Int32) := g57
          refine ok_lq (fun M26 eq_69 => ?_)
          have hM26 : IV A B M26 := by rw [eq_69]; exact hM22.w1f rfl (a3 (((M22.1 48 0 (v7).toNatClampNeg)).toNatClampNeg)) rfl
          have pf70 : FU (v7 + (1 : Int32)) 40 n := by
            have c71 : (vp_nar .char (98 : Int32)) = (98 : Int32) := by decide
            have c72 : (0 : Int32) ≤ (M9.1 26 0 5) ∧ (M9.1 26 0 5) ≤ (40 : Int32) := hM9.at1 26 0 5
            have c73 : (0 : Int32) ≤ (M16.1 42 0 (v7).toNatClampNeg) ∧ (M16.1 42 0 (v7).toNatClampNeg) ≤ (65535 : Int32) := hM16.at1 42 0 ((v7).toNatClampNeg)
            have c74 : (M16.1 42 0 (v7).toNatClampNeg) = (M9.1 42 0 (v7).toNatClampNeg) := by rw [eq_6]; exact up_k (by decide)
            have c75 : (M16.1 49 0 (v7).toNatClampNeg) = ((M9.1 49 0 (v7).toNatClampNeg) - p0) := by rw [eq_6]; exact up_s
            have c76 : (0 : Int32) ≤ (M22.1 48 0 (v7).toNatClampNeg) ∧ (M22.1 48 0 (v7).toNatClampNeg) ≤ (9 : Int32) := hM22.at1 48 0 ((v7).toNatClampNeg)
            have c77 : (M22.1 48 0 (v7).toNatClampNeg) = (M16.1 48 0 (v7).toNatClampNeg) := by rw [eq_36]; exact up_k (by decide)
            have c78 : (0 : Int32) ≤ (M9.1 42 0 (v7).toNatClampNeg) ∧ (M9.1 42 0 (v7).toNatClampNeg) ≤ (65535 : Int32) := hM9.at1 42 0 ((v7).toNatClampNeg)
            have c79 : (0 : Int32) ≤ (M16.1 48 0 (v7).toNatClampNeg) ∧ (M16.1 48 0 (v7).toNatClampNeg) ≤ (9 : Int32) := hM16.at1 48 0 ((v7).toNatClampNeg)
            have c80 : (M16.1 48 0 (v7).toNatClampNeg) = (M9.1 48 0 (v7).toNatClampNeg) := by rw [eq_6]; exact up_k (by decide)
            have c81 : (0 : Int32) ≤ (M9.1 48 0 (v7).toNatClampNeg) ∧ (M9.1 48 0 (v7).toNatClampNeg) ≤ (9 : Int32) := hM9.at1 48 0 ((v7).toNatClampNeg)
            exact FU.step hF (by grind)
          have pf82 : (0 : Int32) ≤ (v7 + (1 : Int32)) ∧ (v7 + (1 : Int32)) ≤ (40 : Int32) := by
            have c83 : (vp_nar .char (98 : Int32)) = (98 : Int32) := by decide
            have c84 : (0 : Int32) ≤ (M9.1 26 0 5) ∧ (M9.1 26 0 5) ≤ (40 : Int32) := hM9.at1 26 0 5
            have c85 : (0 : Int32) ≤ (M16.1 42 0 (v7).toNatClampNeg) ∧ (M16.1 42 0 (v7).toNatClampNeg) ≤ (65535 : Int32) := hM16.at1 42 0 ((v7).toNatClampNeg)
            have c86 : (M16.1 42 0 (v7).toNatClampNeg) = (M9.1 42 0 (v7).toNatClampNeg) := by rw [eq_6]; exact up_k (by decide)
            have c87 : (M16.1 49 0 (v7).toNatClampNeg) = ((M9.1 49 0 (v7).toNatClampNeg) - p0) := by rw [eq_6]; exact up_s
            have c88 : (0 : Int32) ≤ (M22.1 48 0 (v7).toNatClampNeg) ∧ (M22.1 48 0 (v7).toNatClampNeg) ≤ (9 : Int32) := hM22.at1 48 0 ((v7).toNatClampNeg)
            have c89 : (M22.1 48 0 (v7).toNatClampNeg) = (M16.1 48 0 (v7).toNatClampNeg) := by rw [eq_36]; exact up_k (by decide)
            have c90 : (0 : Int32) ≤ (M9.1 42 0 (v7).toNatClampNeg) ∧ (M9.1 42 0 (v7).toNatClampNeg) ≤ (65535 : Int32) := hM9.at1 42 0 ((v7).toNatClampNeg)
            have c91 : (0 : Int32) ≤ (M16.1 48 0 (v7).toNatClampNeg) ∧ (M16.1 48 0 (v7).toNatClampNeg) ≤ (9 : Int32) := hM16.at1 48 0 ((v7).toNatClampNeg)
            have c92 : (M16.1 48 0 (v7).toNatClampNeg) = (M9.1 48 0 (v7).toNatClampNeg) := by rw [eq_6]; exact up_k (by decide)
            have c93 : (0 : Int32) ≤ (M9.1 48 0 (v7).toNatClampNeg) ∧ (M9.1 48 0 (v7).toNatClampNeg) ≤ (9 : Int32) := hM9.at1 48 0 ((v7).toNatClampNeg)
            exact ⟨by grind, by grind⟩
          exact ih (v7 + (1 : Int32)) (v8 + (1 : Int32)) M26 k4 pf70 pf82 hM26 hk
      · have pf94 : FU (v7 + (1 : Int32)) 40 n := by
          have c95 : (0 : Int32) ≤ (M9.1 26 0 5) ∧ (M9.1 26 0 5) ≤ (40 : Int32) := hM9.at1 26 0 5
          have c96 : (0 : Int32) ≤ (M16.1 42 0 (v7).toNatClampNeg) ∧ (M16.1 42 0 (v7).toNatClampNeg) ≤ (65535 : Int32) := hM16.at1 42 0 ((v7).toNatClampNeg)
          have c97 : (M16.1 42 0 (v7).toNatClampNeg) = (M9.1 42 0 (v7).toNatClampNeg) := by rw [eq_6]; exact up_k (by decide)
          have c98 : (0 : Int32) ≤ (M9.1 42 0 (v7).toNatClampNeg) ∧ (M9.1 42 0 (v7).toNatClampNeg) ≤ (65535 : Int32) := hM9.at1 42 0 ((v7).toNatClampNeg)
          exact FU.step hF (by grind)
        have pf99 : (0 : Int32) ≤ (v7 + (1 : Int32)) ∧ (v7 + (1 : Int32)) ≤ (40 : Int32) := by
          have c100 : (0 : Int32) ≤ (M9.1 26 0 5) ∧ (M9.1 26 0 5) ≤ (40 : Int32) := hM9.at1 26 0 5
          have c101 : (0 : Int32) ≤ (M16.1 42 0 (v7).toNatClampNeg) ∧ (M16.1 42 0 (v7).toNatClampNeg) ≤ (65535 : Int32) := hM16.at1 42 0 ((v7).toNatClampNeg)
          have c102 : (M16.1 42 0 (v7).toNatClampNeg) = (M9.1 42 0 (v7).toNatClampNeg) := by rw [eq_6]; exact up_k (by decide)
          have c103 : (0 : Int32) ≤ (M9.1 42 0 (v7).toNatClampNeg) ∧ (M9.1 42 0 (v7).toNatClampNeg) ≤ (65535 : Int32) := hM9.at1 42 0 ((v7).toNatClampNeg)
          exact ⟨by grind, by grind⟩
        exact ih (v7 + (1 : Int32)) v8 M16 k4 pf94 pf99 hM16 hk
theorem s_X7_days {A : Nat → Nat → Nat → Prop} {B : SS} (M : SS) (hM : IV A B M) (p0 : Int32) (a1 : A 26 0 9) (a2 : ∀ p, A 42 0 p) (a3 : ∀ p, A 49 0 p) (a4 : ∀ p, A 51 0 p) : ok (f_X7_days M p0) (fun r => IV A B r.1 ∧ True) := by
  unfold f_X7_days
  refine ok_b0 (s_X7_in p0 (1 : Int32) (show ((-999) : Int32) ≤ (1 : Int32) ∧ (1 : Int32) ≤ (1 : Int32) from ⟨by decide, by decide⟩) (30 : Int32) (show ((-1) : Int32) ≤ (30 : Int32) ∧ (30 : Int32) ≤ (999 : Int32) from ⟨by decide, by decide⟩)) (fun v1 w1 => ?_)
  have w2 : (0 : Int32) ≤ v1 ∧ v1 ≤ (1 : Int32) ∧ ((v1 = 0 ∧ (p0 < (1 : Int32) ∨ (30 : Int32) < p0)) ∨ (v1 = 1 ∧ (1 : Int32) ≤ p0 ∧ p0 ≤ (30 : Int32))) := w1
  refine ok_ite (fun q3 => ?_) (fun q3 => ?_)
  · refine ok_b1 (s_X7_fails M hM (1 : Int32) (show (1 : Int32) ≤ (1 : Int32) ∧ (1 : Int32) ≤ (3 : Int32) from ⟨by decide, by decide⟩) (a1)) (fun M28 v27 w4 => ?_)
    have hM28 : IV A B M28 := w4.1
    have w5 : (0 : Int32) ≤ v27 ∧ v27 ≤ (0 : Int32) := w4.2
    exact ok_some ⟨hM28, trivial⟩
  · have pf6 : (1 : Int32) ≤ p0 ∧ p0 ≤ (30 : Int32) := by
      exact ⟨by grind, by grind⟩
    have pf7 : FU (0 : Int32) 40 1000 := by
      exact FU.start (by grind) (by decide)
    refine s_X7_days_L20 p0 pf6 (fun p => a2 p) (fun p => a3 p) (fun p => a4 p) 1000 (0 : Int32) (0 : Int32) M _ pf7 (show (0 : Int32) ≤ (0 : Int32) ∧ (0 : Int32) ≤ (40 : Int32) from ⟨by decide, by decide⟩) hM (fun v5 M6 hM6 => ?_)
    refine ok_b1 (s_X7_tells M6 hM6 v5 (a1)) (fun M11 v10 w8 => ?_)
    have hM11 : IV A B M11 := w8.1
    exact ok_some ⟨hM11, trivial⟩
theorem s_X7_checksum_L52 {A : Nat → Nat → Nat → Prop} {B : SS} (M1 : SS) (hM1 : IV A B M1) : ∀ (n : Nat), ∀ (v9 : Int32) (v10 : Int64) (k7 : (Int64 → Option (SS × Int64))), (FU v9 10 n) → ((0 : Int32) ≤ v9 ∧ v9 ≤ (10 : Int32)) → (∀ (k_0 : Int64), ok (k7 k_0) (fun r => IV A B r.1 ∧ True)) → ok (f_X7_checksum_L52 M1 n v9 v10 k7) (fun r => IV A B r.1 ∧ True) := by
  intro n
  induction n with
  | zero =>
    intro v9 v10 k7 hF iv9 hk
    exact (FU.stop hF (show v9 ≤ (10 : Int32) by grind)).elim
  | succ n ih =>
    intro v9 v10 k7 hF iv9 hk
    rw [f_X7_checksum_L52]
    refine ok_ite (fun q1 => ?_) (fun q1 => ?_)
    · exact hk v10
    · refine ok_gd ?_ (fun g2 => ?_)
      · have c3 : (0 : Int32) ≤ (M1.1 26 0 4) ∧ (M1.1 26 0 4) ≤ (10 : Int32) := hM1.at1 26 0 4
        exact vp_of (by decide) (by grind) (show v9 < (10 : Int32) by grind)
      have g2 := vp_to (by decide) g2
      have g2 : (0 : Int32) ≤ v9 ∧ v9 < (10 : Int32) := g2
      refine ok_lq (fun v13 eq_4 => ?_)
      have pf5 : FU (v9 + (1 : Int32)) 10 n := by
        have c6 : (0 : Int32) ≤ (M1.1 26 0 4) ∧ (M1.1 26 0 4) ≤ (10 : Int32) := hM1.at1 26 0 4
        exact FU.step hF (by grind)
      have pf7 : (0 : Int32) ≤ (v9 + (1 : Int32)) ∧ (v9 + (1 : Int32)) ≤ (10 : Int32) := by
        have c8 : (0 : Int32) ≤ (M1.1 26 0 4) ∧ (M1.1 26 0 4) ≤ (10 : Int32) := hM1.at1 26 0 4
        exact ⟨by grind, by grind⟩
      exact ih (v9 + (1 : Int32)) v13 k7 pf5 pf7 hk
theorem s_X7_checksum_L11 {A : Nat → Nat → Nat → Prop} {B : SS} (M1 : SS) (hM1 : IV A B M1) : ∀ (n : Nat), ∀ (v5 : Int32) (v6 : Int64) (k3 : (Int64 → Option (SS × Int64))), (FU v5 40 n) → ((0 : Int32) ≤ v5 ∧ v5 ≤ (40 : Int32)) → (∀ (k_0 : Int64), ok (k3 k_0) (fun r => IV A B r.1 ∧ True)) → ok (f_X7_checksum_L11 M1 n v5 v6 k3) (fun r => IV A B r.1 ∧ True) := by
  intro n
  induction n with
  | zero =>
    intro v5 v6 k3 hF iv5 hk
    exact (FU.stop hF (show v5 ≤ (40 : Int32) by grind)).elim
  | succ n ih =>
    intro v5 v6 k3 hF iv5 hk
    rw [f_X7_checksum_L11]
    refine ok_ite (fun q1 => ?_) (fun q1 => ?_)
    · exact hk v6
    · refine ok_gd ?_ (fun g2 => ?_)
      · have c3 : (0 : Int32) ≤ (M1.1 26 0 5) ∧ (M1.1 26 0 5) ≤ (40 : Int32) := hM1.at1 26 0 5
        exact vp_of (by decide) (by grind) (show v5 < (40 : Int32) by grind)
      have g2 := vp_to (by decide) g2
      have g2 : (0 : Int32) ≤ v5 ∧ v5 < (40 : Int32) := g2
      have pf4 : (0 : Int32) ≤ v5 ∧ v5 ≤ (39 : Int32) := by
        have c5 : (0 : Int32) ≤ (M1.1 26 0 5) ∧ (M1.1 26 0 5) ≤ (40 : Int32) := hM1.at1 26 0 5
        exact ⟨by grind, by grind⟩
      refine ok_b0 (s_X7_weighed M1 hM1 v5 pf4) (fun v16 w6 => ?_)
      refine ok_lq (fun v18 eq_7 => ?_)
      have pf8 : FU (v5 + (1 : Int32)) 40 n := by
        have c9 : (0 : Int32) ≤ (M1.1 26 0 5) ∧ (M1.1 26 0 5) ≤ (40 : Int32) := hM1.at1 26 0 5
        exact FU.step hF (by grind)
      have pf10 : (0 : Int32) ≤ (v5 + (1 : Int32)) ∧ (v5 + (1 : Int32)) ≤ (40 : Int32) := by
        have c11 : (0 : Int32) ≤ (M1.1 26 0 5) ∧ (M1.1 26 0 5) ≤ (40 : Int32) := hM1.at1 26 0 5
        exact ⟨by grind, by grind⟩
      exact ih (v5 + (1 : Int32)) v18 k3 pf8 pf10 hk
theorem s_X7_checksum {A : Nat → Nat → Nat → Prop} {B : SS} (M : SS) (hM : IV A B M) (a1 : A 26 0 9) : ok (f_X7_checksum M) (fun r => IV A B r.1 ∧ True) := by
  unfold f_X7_checksum
  refine ok_lq (fun M1 eq_1 => ?_)
  have hM1 : IV A B M1 := by rw [eq_1]; exact hM.w1 rfl (a1) (show (0 : Int32) ≤ (0 : Int32) ∧ (0 : Int32) ≤ (3 : Int32) from ⟨by decide, by decide⟩)
  refine ok_lq (fun v2 eq_2 => ?_)
  have pf3 : FU (0 : Int32) 40 1000 := by
    exact FU.start (by grind) (by decide)
  refine s_X7_checksum_L11 M1 hM1 1000 (0 : Int32) v2 _ pf3 (show (0 : Int32) ≤ (0 : Int32) ∧ (0 : Int32) ≤ (40 : Int32) from ⟨by decide, by decide⟩) (fun v4 => ?_)
  have pf4 : FU (0 : Int32) 10 1000 := by
    exact FU.start (by grind) (by decide)
  refine s_X7_checksum_L52 M1 hM1 1000 (0 : Int32) v4 _ pf4 (show (0 : Int32) ≤ (0 : Int32) ∧ (0 : Int32) ≤ (10 : Int32) from ⟨by decide, by decide⟩) (fun v8 => ?_)
  exact ok_some ⟨hM1, trivial⟩
theorem s_X7_standingShare_L20 {A : Nat → Nat → Nat → Prop} {B : SS} (M3 : SS) (hM3 : IV A B M3) : ∀ (n : Nat), ∀ (v6 : Int32) (v7 : Int32) (k4 : (Int32 → Option (SS × UInt32))), (FU v6 40 n) → ((0 : Int32) ≤ v6 ∧ v6 ≤ (40 : Int32)) → (∀ (k_0 : Int32), ok (k4 k_0) (fun r => IV A B r.1 ∧ vf_n32 r.2)) → ok (f_X7_standingShare_L20 M3 n v6 v7 k4) (fun r => IV A B r.1 ∧ vf_n32 r.2) := by
  intro n
  induction n with
  | zero =>
    intro v6 v7 k4 hF iv6 hk
    exact (FU.stop hF (show v6 ≤ (40 : Int32) by grind)).elim
  | succ n ih =>
    intro v6 v7 k4 hF iv6 hk
    rw [f_X7_standingShare_L20]
    refine ok_ite (fun q1 => ?_) (fun q1 => ?_)
    · exact hk v7
    · have pf2 : (0 : Int32) ≤ v6 ∧ v6 ≤ (39 : Int32) := by
        have c3 : (0 : Int32) ≤ (M3.1 26 0 5) ∧ (M3.1 26 0 5) ≤ (40 : Int32) := hM3.at1 26 0 5
        exact ⟨by grind, by grind⟩
      refine ok_b0 (s_X7_counts M3 hM3 v6 pf2) (fun v11 w4 => ?_)
      have w5 : (0 : Int32) ≤ v11 ∧ v11 ≤ (1 : Int32) := w4
      refine ok_ite (fun q6 => ?_) (fun q6 => ?_)
      · refine ok_lq (fun v14 eq_7 => ?_)
        have pf8 : FU (v6 + (1 : Int32)) 40 n := by
          have c9 : (0 : Int32) ≤ (M3.1 26 0 5) ∧ (M3.1 26 0 5) ≤ (40 : Int32) := hM3.at1 26 0 5
          exact FU.step hF (by grind)
        have pf10 : (0 : Int32) ≤ (v6 + (1 : Int32)) ∧ (v6 + (1 : Int32)) ≤ (40 : Int32) := by
          have c11 : (0 : Int32) ≤ (M3.1 26 0 5) ∧ (M3.1 26 0 5) ≤ (40 : Int32) := hM3.at1 26 0 5
          exact ⟨by grind, by grind⟩
        exact ih (v6 + (1 : Int32)) v14 k4 pf8 pf10 hk
      · refine ok_lq (fun v15 eq_12 => ?_)
        have pf13 : FU (v6 + (1 : Int32)) 40 n := by
          have c14 : (0 : Int32) ≤ (M3.1 26 0 5) ∧ (M3.1 26 0 5) ≤ (40 : Int32) := hM3.at1 26 0 5
          exact FU.step hF (by grind)
        have pf15 : (0 : Int32) ≤ (v6 + (1 : Int32)) ∧ (v6 + (1 : Int32)) ≤ (40 : Int32) := by
          have c16 : (0 : Int32) ≤ (M3.1 26 0 5) ∧ (M3.1 26 0 5) ≤ (40 : Int32) := hM3.at1 26 0 5
          exact ⟨by grind, by grind⟩
        exact ih (v6 + (1 : Int32)) v15 k4 pf13 pf15 hk
theorem s_X7_standingShare {A : Nat → Nat → Nat → Prop} {B : SS} (M : SS) (hM : IV A B M) (a1 : A 26 0 9) : ok (f_X7_standingShare M) (fun r => IV A B r.1 ∧ vf_n32 r.2) := by
  unfold f_X7_standingShare
  refine ok_ite (fun q1 => ?_) (fun q1 => ?_)
  · unfold f_X7_standingShare_J13
    refine ok_lq (fun M3 eq_2 => ?_)
    have hM3 : IV A B M3 := by rw [eq_2]; exact hM.w1 rfl (a1) (show (0 : Int32) ≤ (1 : Int32) ∧ (1 : Int32) ≤ (3 : Int32) from ⟨by decide, by decide⟩)
    have pf3 : FU (0 : Int32) 40 1000 := by
      exact FU.start (by grind) (by decide)
    refine s_X7_standingShare_L20 M3 hM3 1000 (0 : Int32) (0 : Int32) _ pf3 (show (0 : Int32) ≤ (0 : Int32) ∧ (0 : Int32) ≤ (40 : Int32) from ⟨by decide, by decide⟩) (fun v5 => ?_)
    refine ok_ite (fun q4 => ?_) (fun q4 => ?_)
    · have c5 : (M3.1 26 0 9) = (1 : Int32) := by rw [eq_2]; exact up_s
      exfalso
      grind
    · have c6 : (M3.1 26 0 9) = (1 : Int32) := by rw [eq_2]; exact up_s
      exact ok_some ⟨hM3, nn_f0⟩
  · unfold f_X7_standingShare_J13
    refine ok_lq (fun M3 eq_7 => ?_)
    have hM3 : IV A B M3 := by rw [eq_7]; exact hM.w1 rfl (a1) (show (0 : Int32) ≤ (0 : Int32) ∧ (0 : Int32) ≤ (3 : Int32) from ⟨by decide, by decide⟩)
    have pf8 : FU (0 : Int32) 40 1000 := by
      exact FU.start (by grind) (by decide)
    refine s_X7_standingShare_L20 M3 hM3 1000 (0 : Int32) (0 : Int32) _ pf8 (show (0 : Int32) ≤ (0 : Int32) ∧ (0 : Int32) ≤ (40 : Int32) from ⟨by decide, by decide⟩) (fun v5 => ?_)
    refine ok_ite (fun q9 => ?_) (fun q9 => ?_)
    · have c10 : (M3.1 26 0 9) = (0 : Int32) := by rw [eq_7]; exact up_s
      refine ok_gd ?_ (fun g11 => ?_)
      · have z12 : ¬ ((M3.1 26 0 5) = 0) := by
          have c13 : (0 : Int32) ≤ (M3.1 26 0 5) ∧ (M3.1 26 0 5) ≤ (40 : Int32) := hM3.at1 26 0 5
          have c14 : (M3.1 26 0 5) = (M.1 26 0 5) := by rw [eq_7]; exact up_p (by decide)
          have c15 : (0 : Int32) ≤ (M.1 26 0 5) ∧ (M.1 26 0 5) ≤ (40 : Int32) := hM.at1 26 0 5
          grind
        exact nn_fdiv z12
      have z16 : ¬ ((M3.1 26 0 5) = 0) := by
        have c17 : (0 : Int32) ≤ (M3.1 26 0 5) ∧ (M3.1 26 0 5) ≤ (40 : Int32) := hM3.at1 26 0 5
        have c18 : (M3.1 26 0 5) = (M.1 26 0 5) := by rw [eq_7]; exact up_p (by decide)
        have c19 : (0 : Int32) ≤ (M.1 26 0 5) ∧ (M.1 26 0 5) ≤ (40 : Int32) := hM.at1 26 0 5
        grind
      exact ok_some ⟨hM3, (nn_fdiv z16)⟩
    · have c20 : (M3.1 26 0 9) = (0 : Int32) := by rw [eq_7]; exact up_s
      exfalso
      grind
theorem s_X7_meanSteps_J71 {A : Nat → Nat → Nat → Prop} {B : SS} (v13 : Int32) (v24 : Int32) (v12 : Int32) (v11 : Int32) (iv11 : (0 : Int32) ≤ v11 ∧ v11 ≤ (4 : Int32)) (M25 : SS) (hM25 : IV A B M25) (v27 : Int32) {n : Nat} (rc : Int32 → Int32 → Int32 → SS → (Int32 → Int32 → SS → Option (SS × UInt64)) → Option (SS × UInt64)) (hrc : ∀ (v11 : Int32) (v12 : Int32) (v13 : Int32) (M14 : SS) (k7 : (Int32 → Int32 → SS → Option (SS × UInt64))), (FU v11 5 n) → ((0 : Int32) ≤ v11 ∧ v11 ≤ (5 : Int32)) → (IV A B M14) → (∀ (k_0 : Int32) (k_1 : Int32) (k_2 : SS), (IV A B k_2) → ok (k7 k_0 k_1 k_2) (fun r => IV A B r.1 ∧ vf_n64 r.2)) → ok (rc v11 v12 v13 M14 k7) (fun r => IV A B r.1 ∧ vf_n64 r.2)) (k7 : Int32 → Int32 → SS → Option (SS × UInt64)) (hk : ∀ (k_0 : Int32) (k_1 : Int32) (k_2 : SS), (IV A B k_2) → ok (k7 k_0 k_1 k_2) (fun r => IV A B r.1 ∧ vf_n64 r.2)) (hF : FU v11 5 (n + 1)) : ok (f_X7_meanSteps_J71 rc k7 v13 v24 v12 v11 M25 v27) (fun r => IV A B r.1 ∧ vf_n64 r.2) := by
  unfold f_X7_meanSteps_J71
  refine ok_lq (fun v29 eq_1 => ?_)
  refine ok_ite (fun q2 => ?_) (fun q2 => ?_)
  · refine ok_lq (fun v32 eq_3 => ?_)
    have pf4 : FU (v11 + (1 : Int32)) 5 n := by
      exact FU.step hF (by grind)
    have pf5 : (0 : Int32) ≤ (v11 + (1 : Int32)) ∧ (v11 + (1 : Int32)) ≤ (5 : Int32) := by
      exact ⟨by grind, by grind⟩
    exact hrc (v11 + (1 : Int32)) v32 v29 M25 k7 pf4 pf5 hM25 hk
  · refine ok_lq (fun v31 eq_6 => ?_)
    have pf7 : FU (v11 + (1 : Int32)) 5 n := by
      exact FU.step hF (by grind)
    have pf8 : (0 : Int32) ≤ (v11 + (1 : Int32)) ∧ (v11 + (1 : Int32)) ≤ (5 : Int32) := by
      exact ⟨by grind, by grind⟩
    exact hrc (v11 + (1 : Int32)) v31 v29 M25 k7 pf7 pf8 hM25 hk
theorem s_X7_meanSteps_L33 {A : Nat → Nat → Nat → Prop} {B : SS} (p0 : Int32) (ip0 : (0 : Int32) ≤ p0 ∧ p0 ≤ (39 : Int32)) (a1 : A 26 0 38) (a2 : A 26 0 39) (a3 : A 26 0 40) (a4 : ∀ p, A 53 0 p) (a5 : ∀ p, A 54 0 p) : ∀ (n : Nat), ∀ (v11 : Int32) (v12 : Int32) (v13 : Int32) (M14 : SS) (k7 : (Int32 → Int32 → SS → Option (SS × UInt64))), (FU v11 5 n) → ((0 : Int32) ≤ v11 ∧ v11 ≤ (5 : Int32)) → (IV A B M14) → (∀ (k_0 : Int32) (k_1 : Int32) (k_2 : SS), (IV A B k_2) → ok (k7 k_0 k_1 k_2) (fun r => IV A B r.1 ∧ vf_n64 r.2)) → ok (f_X7_meanSteps_L33 p0 n v11 v12 v13 M14 k7) (fun r => IV A B r.1 ∧ vf_n64 r.2) := by
  intro n
  induction n with
  | zero =>
    intro v11 v12 v13 M14 k7 hF iv11 hM14 hk
    exact (FU.stop hF (show v11 ≤ (5 : Int32) by grind)).elim
  | succ n ih =>
    intro v11 v12 v13 M14 k7 hF iv11 hM14 hk
    rw [f_X7_meanSteps_L33]
    refine ok_gd ?_ (fun g1 => ?_)
    · exact vp_of (by decide) (by grind) (show p0 < (40 : Int32) by grind)
    have g1 := vp_to (by decide) g1
    have g1 : (0 : Int32) ≤ p0 ∧ p0 < (40 : Int32) := g1
    refine ok_gd ?_ (fun g2 => ?_)
    · have c3 : (0 : Int32) ≤ (M14.1 40 0 (p0).toNatClampNeg) ∧ (M14.1 40 0 (p0).toNatClampNeg) ≤ (7 : Int32) := hM14.at1 40 0 ((p0).toNatClampNeg)
      exact vp_of (by decide) (by grind) (show (M14.1 40 0 (p0).toNatClampNeg) < (8 : Int32) by grind)
    have g2 := vp_to (by decide) g2
    have g2 : (0 : Int32) ≤ (M14.1 40 0 (p0).toNatClampNeg) ∧ (M14.1 40 0 (p0).toNatClampNeg) < (8 : Int32) := g2
    refine ok_ite (fun q4 => ?_) (fun q4 => ?_)
    · exact hk v12 v13 M14 hM14
    · have pf5 : (0 : Int32) ≤ p0 ∧ p0 ≤ (39 : Int32) := by
        have c6 : (0 : Int32) ≤ (M14.1 40 0 (p0).toNatClampNeg) ∧ (M14.1 40 0 (p0).toNatClampNeg) ≤ (7 : Int32) := hM14.at1 40 0 ((p0).toNatClampNeg)
        have c7 : (0 : Int32) ≤ (M14.1 33 0 ((M14.1 40 0 (p0).toNatClampNeg)).toNatClampNeg) ∧ (M14.1 33 0 ((M14.1 40 0 (p0).toNatClampNeg)).toNatClampNeg) ≤ (5 : Int32) := hM14.at1 33 0 (((M14.1 40 0 (p0).toNatClampNeg)).toNatClampNeg)
        exact ⟨by grind, by grind⟩
      have pf8 : (0 : Int32) ≤ v11 ∧ v11 ≤ (4 : Int32) := by
        have c9 : (0 : Int32) ≤ (M14.1 33 0 ((M14.1 40 0 (p0).toNatClampNeg)).toNatClampNeg) ∧ (M14.1 33 0 ((M14.1 40 0 (p0).toNatClampNeg)).toNatClampNeg) ≤ (5 : Int32) := hM14.at1 33 0 (((M14.1 40 0 (p0).toNatClampNeg)).toNatClampNeg)
        have c10 : (0 : Int32) ≤ (M14.1 40 0 (p0).toNatClampNeg) ∧ (M14.1 40 0 (p0).toNatClampNeg) ≤ (7 : Int32) := hM14.at1 40 0 ((p0).toNatClampNeg)
        exact ⟨by grind, by grind⟩
      refine ok_b1 (s_X7_stepsOf M14 hM14 p0 pf5 v11 pf8 (a1) (a2) (a3) (fun p => a4 p) (fun p => a5 p)) (fun M25 v24 w11 => ?_)
      have hM25 : IV A B M25 := w11.1
      refine ok_ite (fun q12 => ?_) (fun q12 => ?_)
      · have pf13 : (0 : Int32) ≤ v11 ∧ v11 ≤ (4 : Int32) := by
          have c14 : (0 : Int32) ≤ (M14.1 33 0 ((M14.1 40 0 (p0).toNatClampNeg)).toNatClampNeg) ∧ (M14.1 33 0 ((M14.1 40 0 (p0).toNatClampNeg)).toNatClampNeg) ≤ (5 : Int32) := hM14.at1 33 0 (((M14.1 40 0 (p0).toNatClampNeg)).toNatClampNeg)
          have c15 : (0 : Int32) ≤ (M14.1 40 0 (p0).toNatClampNeg) ∧ (M14.1 40 0 (p0).toNatClampNeg) ≤ (7 : Int32) := hM14.at1 40 0 ((p0).toNatClampNeg)
          exact ⟨by grind, by grind⟩
        exact s_X7_meanSteps_J71 v13 v24 v12 v11 pf13 M25 hM25 (0 : Int32) (f_X7_meanSteps_L33 p0 n) ih k7 hk hF
      · have pf16 : (0 : Int32) ≤ v11 ∧ v11 ≤ (4 : Int32) := by
          have c17 : (0 : Int32) ≤ (M14.1 33 0 ((M14.1 40 0 (p0).toNatClampNeg)).toNatClampNeg) ∧ (M14.1 33 0 ((M14.1 40 0 (p0).toNatClampNeg)).toNatClampNeg) ≤ (5 : Int32) := hM14.at1 33 0 (((M14.1 40 0 (p0).toNatClampNeg)).toNatClampNeg)
          have c18 : (0 : Int32) ≤ (M14.1 40 0 (p0).toNatClampNeg) ∧ (M14.1 40 0 (p0).toNatClampNeg) ≤ (7 : Int32) := hM14.at1 40 0 ((p0).toNatClampNeg)
          exact ⟨by grind, by grind⟩
        exact s_X7_meanSteps_J71 v13 v24 v12 v11 pf16 M25 hM25 v24 (f_X7_meanSteps_L33 p0 n) ih k7 hk hF
theorem s_X7_meanSteps {A : Nat → Nat → Nat → Prop} {B : SS} (M : SS) (hM : IV A B M) (p0 : Int32) (a1 : A 26 0 38) (a2 : A 26 0 39) (a3 : A 26 0 40) (a4 : A 26 0 9) (a5 : ∀ p, A 53 0 p) (a6 : ∀ p, A 54 0 p) : ok (f_X7_meanSteps M p0) (fun r => IV A B r.1 ∧ vf_n64 r.2) := by
  unfold f_X7_meanSteps
  refine ok_b0 (s_X7_isWork M hM p0) (fun v1 w1 => ?_)
  have w2 : (0 : Int32) ≤ v1 ∧ v1 ≤ (1 : Int32) ∧ ((v1 = 0 ∧ (p0 < 0 ∨ (M.1 26 0 5) ≤ p0)) ∨ (v1 = 1 ∧ 0 ≤ p0 ∧ p0 < (M.1 26 0 5))) := w1
  refine ok_ite (fun q3 => ?_) (fun q3 => ?_)
  · unfold f_X7_meanSteps_J14
    refine ok_lq (fun M5 eq_4 => ?_)
    have hM5 : IV A B M5 := by rw [eq_4]; exact hM.w1 rfl (a4) (show (0 : Int32) ≤ (1 : Int32) ∧ (1 : Int32) ≤ (3 : Int32) from ⟨by decide, by decide⟩)
    refine ok_ite (fun q5 => ?_) (fun q5 => ?_)
    · have c6 : (M5.1 26 0 9) = (1 : Int32) := by rw [eq_4]; exact up_s
      exfalso
      grind
    · have c7 : (M5.1 26 0 9) = (1 : Int32) := by rw [eq_4]; exact up_s
      exact ok_some ⟨hM5, nn_d0⟩
  · unfold f_X7_meanSteps_J14
    refine ok_lq (fun M5 eq_8 => ?_)
    have hM5 : IV A B M5 := by rw [eq_8]; exact hM.w1 rfl (a4) (show (0 : Int32) ≤ (0 : Int32) ∧ (0 : Int32) ≤ (3 : Int32) from ⟨by decide, by decide⟩)
    refine ok_ite (fun q9 => ?_) (fun q9 => ?_)
    · have c10 : (M5.1 26 0 9) = (0 : Int32) := by rw [eq_8]; exact up_s
      have pf11 : (0 : Int32) ≤ p0 ∧ p0 ≤ (39 : Int32) := by
        have c12 : (0 : Int32) ≤ (M.1 26 0 5) ∧ (M.1 26 0 5) ≤ (40 : Int32) := hM.at1 26 0 5
        exact ⟨by grind, by grind⟩
      have pf13 : FU (0 : Int32) 5 1000 := by
        exact FU.start (by grind) (by decide)
      refine s_X7_meanSteps_L33 p0 pf11 (a1) (a2) (a3) (fun p => a5 p) (fun p => a6 p) 1000 (0 : Int32) (0 : Int32) (0 : Int32) M5 _ pf13 (show (0 : Int32) ≤ (0 : Int32) ∧ (0 : Int32) ≤ (5 : Int32) from ⟨by decide, by decide⟩) hM5 (fun v8 v9 M10 hM10 => ?_)
      refine ok_ite (fun q14 => ?_) (fun q14 => ?_)
      · unfold f_X7_meanSteps_J103
        refine ok_lq (fun M17 eq_15 => ?_)
        have hM17 : IV A B M17 := by rw [eq_15]; exact hM10.w1 rfl (a4) (show (0 : Int32) ≤ (2 : Int32) ∧ (2 : Int32) ≤ (3 : Int32) from ⟨by decide, by decide⟩)
        refine ok_ite (fun q16 => ?_) (fun q16 => ?_)
        · have c17 : (M17.1 26 0 9) = (2 : Int32) := by rw [eq_15]; exact up_s
          exfalso
          grind
        · have c18 : (M17.1 26 0 9) = (2 : Int32) := by rw [eq_15]; exact up_s
          exact ok_some ⟨hM17, nn_d0⟩
      · unfold f_X7_meanSteps_J103
        refine ok_lq (fun M17 eq_19 => ?_)
        have hM17 : IV A B M17 := by rw [eq_19]; exact hM10.w1 rfl (a4) (show (0 : Int32) ≤ (0 : Int32) ∧ (0 : Int32) ≤ (3 : Int32) from ⟨by decide, by decide⟩)
        refine ok_ite (fun q20 => ?_) (fun q20 => ?_)
        · have c21 : (M17.1 26 0 9) = (0 : Int32) := by rw [eq_19]; exact up_s
          refine ok_gd ?_ (fun g22 => ?_)
          · have z23 : ¬ (v8 = 0) := by
              grind
            exact nn_ddiv z23
          have z24 : ¬ (v8 = 0) := by
            grind
          exact ok_some ⟨hM17, (nn_ddiv z24)⟩
        · have c25 : (M17.1 26 0 9) = (0 : Int32) := by rw [eq_19]; exact up_s
          exfalso
          grind
    · have c26 : (M5.1 26 0 9) = (0 : Int32) := by rw [eq_8]; exact up_s
      exfalso
      grind
theorem s_X7_isSound {A : Nat → Nat → Nat → Prop} {B : SS} (M : SS) (hM : IV A B M) (a1 : A 26 0 9) : ok (f_X7_isSound M) (fun r => IV A B r.1 ∧ (1 : Int32) ≤ r.2 ∧ r.2 ≤ (1 : Int32)) := by
  unfold f_X7_isSound
  refine ok_lq (fun M1 eq_1 => ?_)
  have hM1 : IV A B M1 := by rw [eq_1]; exact hM.w1 rfl (a1) (show (0 : Int32) ≤ (0 : Int32) ∧ (0 : Int32) ≤ (3 : Int32) from ⟨by decide, by decide⟩)
  have pf2 : (1 : Int32) ≤ (1 : Int32) ∧ (1 : Int32) ≤ (1 : Int32) := by
    exact ⟨by grind, by grind⟩
  exact ok_some ⟨hM1, pf2⟩
theorem s_L_step {A : Nat → Nat → Nat → Prop} {B : SS} (X : SS) (hX : IV A B X) (O : SS) (p1 : Int32) (p2 : Int32) (a1 : A 1 0 2) (a2 : ∀ p, A 2 0 p) (a3 : ∀ p, A 3 0 p) : ok (f_L_step X O p1 p2) (fun r => IV A B r.1 ∧ (0 : Int32) ≤ r.2.2 ∧ r.2.2 ≤ (2 : Int32)) := by
  unfold f_L_step
  refine ok_e1 (s_X6_step X hX p1 p2 (a1) (fun p => a2 p) (fun p => a3 p)) (fun X2 v1 w1 => ?_) (fun X2 E5 w1 => ?_)
  · have hX2 : IV A B X2 := w1.1
    have w2 : (0 : Int32) ≤ v1 ∧ v1 ≤ (24 : Int32) := w1.2
    refine ok_lq (fun O10 eq_3 => ?_)
    have pf4 : (0 : Int32) ≤ (0 : Int32) ∧ (0 : Int32) ≤ (2 : Int32) := by
      exact ⟨by grind, by grind⟩
    exact ok_some ⟨hX2, pf4⟩
  · have hX2 : IV A B X2 := w1.1
    have w5 : E5 = "java/lang/IllegalArgumentException" ∨ E5 = "java/lang/IllegalStateException" := w1.2
    refine ok_ite (fun q6 => ?_) (fun q6 => ?_)
    · have pf7 : (0 : Int32) ≤ (1 : Int32) ∧ (1 : Int32) ≤ (2 : Int32) := by
        exact ⟨by grind, by grind⟩
      exact ok_some ⟨hX2, pf7⟩
    · refine ok_ite (fun q8 => ?_) (fun q8 => ?_)
      · have pf9 : (0 : Int32) ≤ (2 : Int32) ∧ (2 : Int32) ≤ (2 : Int32) := by
          exact ⟨by grind, by grind⟩
        exact ok_some ⟨hX2, pf9⟩
      · exact absurd (by grind : False) id
theorem s_L_number {A : Nat → Nat → Nat → Prop} {B : SS} (X : SS) (hX : IV A B X) (O : SS) (p1 : Int32) (p2 : Int32) (a1 : A 4 40 2) (a2 : A 4 40 3) (a3 : ∀ p, A 5 40 p) (a4 : ∀ p, A 6 40 p) : ok (f_L_number X O p1 p2) (fun r => IV A B r.1 ∧ (0 : Int32) ≤ r.2.2 ∧ r.2.2 ≤ (2 : Int32)) := by
  unfold f_L_number
  refine ok_e1 (s_X6_number X hX p1 p2 (a1) (a2) (fun p => a3 p) (fun p => a4 p)) (fun X2 v1 w1 => ?_) (fun X2 E5 w1 => ?_)
  · have hX2 : IV A B X2 := w1.1
    have w2 : (0 : Int32) ≤ v1 ∧ v1 ≤ (6 : Int32) := w1.2
    refine ok_lq (fun O10 eq_3 => ?_)
    have pf4 : (0 : Int32) ≤ (0 : Int32) ∧ (0 : Int32) ≤ (2 : Int32) := by
      exact ⟨by grind, by grind⟩
    exact ok_some ⟨hX2, pf4⟩
  · have hX2 : IV A B X2 := w1.1
    have w5 : E5 = "java/lang/IllegalArgumentException" ∨ E5 = "java/lang/IllegalStateException" := w1.2
    refine ok_ite (fun q6 => ?_) (fun q6 => ?_)
    · have pf7 : (0 : Int32) ≤ (1 : Int32) ∧ (1 : Int32) ≤ (2 : Int32) := by
        exact ⟨by grind, by grind⟩
      exact ok_some ⟨hX2, pf7⟩
    · refine ok_ite (fun q8 => ?_) (fun q8 => ?_)
      · have pf9 : (0 : Int32) ≤ (2 : Int32) ∧ (2 : Int32) ≤ (2 : Int32) := by
          exact ⟨by grind, by grind⟩
        exact ok_some ⟨hX2, pf9⟩
      · exact absurd (by grind : False) id
theorem s_L_kata {A : Nat → Nat → Nat → Prop} {B : SS} (X : SS) (hX : IV A B X) (O : SS) (p1 : Int32) (a1 : A 0 0 9) (a2 : ∀ j, A 7 j 2) : ok (f_L_kata X O p1) (fun r => IV A B r.1 ∧ (0 : Int32) ≤ r.2.2 ∧ r.2.2 ≤ (2 : Int32)) := by
  unfold f_L_kata
  refine ok_e1 (s_X6_kata X hX p1 (a1) a2) (fun X2 v1 w1 => ?_) (fun X2 E5 w1 => ?_)
  · have hX2 : IV A B X2 := w1.1
    have w2 : ((-1) : Int32) ≤ v1 ∧ v1 ≤ (7 : Int32) := w1.2
    refine ok_lq (fun O10 eq_3 => ?_)
    have pf4 : (0 : Int32) ≤ (0 : Int32) ∧ (0 : Int32) ≤ (2 : Int32) := by
      exact ⟨by grind, by grind⟩
    exact ok_some ⟨hX2, pf4⟩
  · have hX2 : IV A B X2 := w1.1
    have w5 : E5 = "java/lang/IllegalArgumentException" ∨ E5 = "java/lang/IllegalStateException" := w1.2
    refine ok_ite (fun q6 => ?_) (fun q6 => ?_)
    · have pf7 : (0 : Int32) ≤ (1 : Int32) ∧ (1 : Int32) ≤ (2 : Int32) := by
        exact ⟨by grind, by grind⟩
      exact ok_some ⟨hX2, pf7⟩
    · refine ok_ite (fun q8 => ?_) (fun q8 => ?_)
      · have pf9 : (0 : Int32) ≤ (2 : Int32) ∧ (2 : Int32) ≤ (2 : Int32) := by
          exact ⟨by grind, by grind⟩
        exact ok_some ⟨hX2, pf9⟩
      · exact absurd (by grind : False) id
theorem s_L_test {A : Nat → Nat → Nat → Prop} {B : SS} (X : SS) (hX : IV A B X) (O : SS) (p1 : Int32) (a1 : A 0 0 14) (a2 : ∀ j, A 12 j 11) (a3 : A 16 1 4) (a4 : A 16 1 5) (a5 : A 16 1 6) (a6 : A 16 1 7) (a7 : A 16 1 8) (a8 : ∀ p, A 17 1 p) (a9 : ∀ p, A 18 1 p) (a10 : ∀ p, A 19 1 p) (a11 : ∀ p, A 20 1 p) (a12 : ∀ j, A 4 j 2) (a13 : ∀ j, A 4 j 3) (a14 : ∀ j, A 4 j 4) (a15 : ∀ j p, A 5 j p) (a16 : ∀ j p, A 6 j p) (a17 : ∀ j, A 7 j 1) : ok (f_L_test X O p1) (fun r => IV A B r.1 ∧ (0 : Int32) ≤ r.2.2 ∧ r.2.2 ≤ (2 : Int32)) := by
  unfold f_L_test
  refine ok_e1 (s_X6_test X hX p1 (a1) a2 (a3) (a4) (a5) (a6) (a7) (fun p => a8 p) (fun p => a9 p) (fun p => a10 p) (fun p => a11 p) a12 a13 a14 a15 a16 a17) (fun X2 v1 w1 => ?_) (fun X2 E5 w1 => ?_)
  · have hX2 : IV A B X2 := w1.1
    refine ok_lq (fun O10 eq_2 => ?_)
    have pf3 : (0 : Int32) ≤ (0 : Int32) ∧ (0 : Int32) ≤ (2 : Int32) := by
      exact ⟨by grind, by grind⟩
    exact ok_some ⟨hX2, pf3⟩
  · have hX2 : IV A B X2 := w1.1
    have w4 : E5 = "java/lang/IllegalStateException" ∨ E5 = "java/lang/IndexOutOfBoundsException" := w1.2
    refine ok_ite (fun q5 => ?_) (fun q5 => ?_)
    · have pf6 : (0 : Int32) ≤ (1 : Int32) ∧ (1 : Int32) ≤ (2 : Int32) := by
        exact ⟨by grind, by grind⟩
      exact ok_some ⟨hX2, pf6⟩
    · refine ok_ite (fun q7 => ?_) (fun q7 => ?_)
      · have pf8 : (0 : Int32) ≤ (2 : Int32) ∧ (2 : Int32) ≤ (2 : Int32) := by
          exact ⟨by grind, by grind⟩
        exact ok_some ⟨hX2, pf8⟩
      · exact absurd (by grind : False) id
theorem s_L_fix {A : Nat → Nat → Nat → Prop} {B : SS} (X : SS) (hX : IV A B X) (O : SS) (p1 : Int32) (p2 : Int32) (a1 : A 0 0 14) (a2 : ∀ j, A 12 j 11) (a3 : A 16 1 4) (a4 : A 16 1 5) (a5 : A 16 1 6) (a6 : A 16 1 7) (a7 : A 16 1 8) (a8 : ∀ p, A 17 1 p) (a9 : ∀ p, A 18 1 p) (a10 : ∀ p, A 19 1 p) (a11 : ∀ p, A 20 1 p) (a12 : ∀ j, A 4 j 2) (a13 : ∀ j, A 4 j 3) (a14 : ∀ j, A 4 j 4) (a15 : ∀ j p, A 5 j p) (a16 : ∀ j p, A 6 j p) : ok (f_L_fix X O p1 p2) (fun r => IV A B r.1 ∧ (0 : Int32) ≤ r.2.2 ∧ r.2.2 ≤ (1 : Int32)) := by
  unfold f_L_fix
  refine ok_e1 (s_X6_fix X hX p1 p2 (a1) a2 (a3) (a4) (a5) (a6) (a7) (fun p => a8 p) (fun p => a9 p) (fun p => a10 p) (fun p => a11 p) a12 a13 a14 a15 a16) (fun X2 v1 w1 => ?_) (fun X2 E5 w1 => ?_)
  · have hX2 : IV A B X2 := w1.1
    refine ok_lq (fun O9 eq_2 => ?_)
    have pf3 : (0 : Int32) ≤ (0 : Int32) ∧ (0 : Int32) ≤ (1 : Int32) := by
      exact ⟨by grind, by grind⟩
    exact ok_some ⟨hX2, pf3⟩
  · have hX2 : IV A B X2 := w1.1
    have w4 : E5 = "java/lang/IndexOutOfBoundsException" := w1.2
    refine ok_ite (fun q5 => ?_) (fun q5 => ?_)
    · have pf6 : (0 : Int32) ≤ (1 : Int32) ∧ (1 : Int32) ≤ (1 : Int32) := by
        exact ⟨by grind, by grind⟩
      exact ok_some ⟨hX2, pf6⟩
    · exact absurd (by grind : False) id
theorem s_L_tests {A : Nat → Nat → Nat → Prop} {B : SS} (X : SS) (hX : IV A B X) (O : SS) (p1 : Int32) : ok (f_L_tests X O p1) (fun r => (0 : Int32) ≤ r.2 ∧ r.2 ≤ (1 : Int32)) := by
  unfold f_L_tests
  refine ok_e0 (s_X6_tests X hX p1) (fun v1 w1 => ?_) (fun E4 w1 => ?_)
  · have w2 : (0 : Int32) ≤ v1 ∧ v1 ≤ (5 : Int32) := w1
    refine ok_lq (fun O8 eq_3 => ?_)
    have pf4 : (0 : Int32) ≤ (0 : Int32) ∧ (0 : Int32) ≤ (1 : Int32) := by
      exact ⟨by grind, by grind⟩
    exact ok_some pf4
  · have w5 : E4 = "java/lang/IndexOutOfBoundsException" := w1
    refine ok_ite (fun q6 => ?_) (fun q6 => ?_)
    · have pf7 : (0 : Int32) ≤ (1 : Int32) ∧ (1 : Int32) ≤ (1 : Int32) := by
        exact ⟨by grind, by grind⟩
      exact ok_some pf7
    · exact absurd (by grind : False) id
theorem s_L_run {A : Nat → Nat → Nat → Prop} {B : SS} (X : SS) (hX : IV A B X) (O : SS) (p1 : Int32) (p2 : Int32) (a1 : A 0 0 15) (a2 : A 16 0 4) (a3 : A 16 0 5) (a4 : A 16 0 6) (a5 : A 16 0 7) (a6 : A 16 0 8) (a7 : ∀ p, A 17 0 p) (a8 : ∀ p, A 18 0 p) (a9 : ∀ p, A 19 0 p) (a10 : ∀ p, A 20 0 p) : ok (f_L_run X O p1 p2) (fun r => IV A B r.1 ∧ (0 : Int32) ≤ r.2.2 ∧ r.2.2 ≤ (2 : Int32)) := by
  unfold f_L_run
  refine ok_e1 (s_X6_run X hX p1 p2 (a1) (a2) (a3) (a4) (a5) (a6) (fun p => a7 p) (fun p => a8 p) (fun p => a9 p) (fun p => a10 p)) (fun X2 v1 w1 => ?_) (fun X2 E5 w1 => ?_)
  · have hX2 : IV A B X2 := w1.1
    have w2 : (33 : Int32) ≤ v1 ∧ v1 ≤ (122 : Int32) := w1.2
    refine ok_lq (fun O10 eq_3 => ?_)
    have pf4 : (0 : Int32) ≤ (0 : Int32) ∧ (0 : Int32) ≤ (2 : Int32) := by
      exact ⟨by grind, by grind⟩
    exact ok_some ⟨hX2, pf4⟩
  · have hX2 : IV A B X2 := w1.1
    have w5 : E5 = "java/lang/IndexOutOfBoundsException" ∨ E5 = "java/lang/UnsupportedOperationException" := w1.2
    refine ok_ite (fun q6 => ?_) (fun q6 => ?_)
    · have pf7 : (0 : Int32) ≤ (1 : Int32) ∧ (1 : Int32) ≤ (2 : Int32) := by
        exact ⟨by grind, by grind⟩
      exact ok_some ⟨hX2, pf7⟩
    · refine ok_ite (fun q8 => ?_) (fun q8 => ?_)
      · have pf9 : (0 : Int32) ≤ (2 : Int32) ∧ (2 : Int32) ≤ (2 : Int32) := by
          exact ⟨by grind, by grind⟩
        exact ok_some ⟨hX2, pf9⟩
      · exact absurd (by grind : False) id
theorem s_L_done {A : Nat → Nat → Nat → Prop} {B : SS} (X : SS) (hX : IV A B X) (O : SS) : ok (f_L_done X O) (fun r => (0 : Int32) ≤ r.2 ∧ r.2 ≤ (1 : Int32)) := by
  unfold f_L_done
  refine ok_e0 (s_X6_done X hX) (fun v1 w1 => ?_) (fun E4 w1 => ?_)
  · refine ok_lq (fun O8 eq_2 => ?_)
    have pf3 : (0 : Int32) ≤ (0 : Int32) ∧ (0 : Int32) ≤ (1 : Int32) := by
      exact ⟨by grind, by grind⟩
    exact ok_some pf3
  · have w4 : E4 = "java/util/NoSuchElementException" := w1
    refine ok_ite (fun q5 => ?_) (fun q5 => ?_)
    · have pf6 : (0 : Int32) ≤ (1 : Int32) ∧ (1 : Int32) ≤ (1 : Int32) := by
        exact ⟨by grind, by grind⟩
      exact ok_some pf6
    · exact absurd (by grind : False) id
theorem s_L_outputs {A : Nat → Nat → Nat → Prop} {B : SS} (X : SS) (hX : IV A B X) (O : SS) : ok (f_L_outputs X O) (fun r => (0 : Int32) ≤ r.2 ∧ r.2 ≤ (1 : Int32)) := by
  unfold f_L_outputs
  refine ok_e0 (s_X6_outputs X hX) (fun v1 w1 => ?_) (fun E4 w1 => ?_)
  · have w2 : (0 : Int32) ≤ v1 ∧ v1 ≤ (6 : Int32) := w1
    refine ok_lq (fun O8 eq_3 => ?_)
    have pf4 : (0 : Int32) ≤ (0 : Int32) ∧ (0 : Int32) ≤ (1 : Int32) := by
      exact ⟨by grind, by grind⟩
    exact ok_some pf4
  · have w5 : E4 = "java/util/NoSuchElementException" := w1
    refine ok_ite (fun q6 => ?_) (fun q6 => ?_)
    · have pf7 : (0 : Int32) ≤ (1 : Int32) ∧ (1 : Int32) ≤ (1 : Int32) := by
        exact ⟨by grind, by grind⟩
      exact ok_some pf7
    · exact absurd (by grind : False) id
theorem s_L_output {A : Nat → Nat → Nat → Prop} {B : SS} (X : SS) (hX : IV A B X) (O : SS) (p1 : Int32) : ok (f_L_output X O p1) (fun r => (0 : Int32) ≤ r.2 ∧ r.2 ≤ (1 : Int32)) := by
  unfold f_L_output
  refine ok_e0 (s_X6_output X hX p1) (fun v1 w1 => ?_) (fun E4 w1 => ?_)
  · refine ok_lq (fun O8 eq_2 => ?_)
    have pf3 : (0 : Int32) ≤ (0 : Int32) ∧ (0 : Int32) ≤ (1 : Int32) := by
      exact ⟨by grind, by grind⟩
    exact ok_some pf3
  · have w4 : E4 = "java/util/NoSuchElementException" := w1
    refine ok_ite (fun q5 => ?_) (fun q5 => ?_)
    · have pf6 : (0 : Int32) ≤ (1 : Int32) ∧ (1 : Int32) ≤ (1 : Int32) := by
        exact ⟨by grind, by grind⟩
      exact ok_some pf6
    · exact absurd (by grind : False) id
theorem s_L_depth {A : Nat → Nat → Nat → Prop} {B : SS} (X : SS) (hX : IV A B X) (O : SS) : ok (f_L_depth X O) (fun r => (0 : Int32) ≤ r.2 ∧ r.2 ≤ (1 : Int32)) := by
  unfold f_L_depth
  refine ok_e0 (s_X6_depth X hX) (fun v1 w1 => ?_) (fun E4 w1 => ?_)
  · have w2 : (0 : Int32) ≤ v1 ∧ v1 ≤ (12 : Int32) := w1
    refine ok_lq (fun O8 eq_3 => ?_)
    have pf4 : (0 : Int32) ≤ (0 : Int32) ∧ (0 : Int32) ≤ (1 : Int32) := by
      exact ⟨by grind, by grind⟩
    exact ok_some pf4
  · have w5 : E4 = "java/util/NoSuchElementException" := w1
    refine ok_ite (fun q6 => ?_) (fun q6 => ?_)
    · have pf7 : (0 : Int32) ≤ (1 : Int32) ∧ (1 : Int32) ≤ (1 : Int32) := by
        exact ⟨by grind, by grind⟩
      exact ok_some pf7
    · exact absurd (by grind : False) id
theorem s_L_member {A : Nat → Nat → Nat → Prop} {B : SS} (X : SS) (hX : IV A B X) (O : SS) (a1 : A 0 0 10) : ok (f_L_member X O) (fun r => IV A B r.1 ∧ (0 : Int32) ≤ r.2.2 ∧ r.2.2 ≤ (1 : Int32)) := by
  unfold f_L_member
  refine ok_e1 (s_X6_member X hX (a1)) (fun X2 v1 w1 => ?_) (fun X2 E5 w1 => ?_)
  · have hX2 : IV A B X2 := w1.1
    have w2 : ((-1) : Int32) ≤ v1 ∧ v1 ≤ (9 : Int32) := w1.2
    refine ok_lq (fun O9 eq_3 => ?_)
    have pf4 : (0 : Int32) ≤ (0 : Int32) ∧ (0 : Int32) ≤ (1 : Int32) := by
      exact ⟨by grind, by grind⟩
    exact ok_some ⟨hX2, pf4⟩
  · have hX2 : IV A B X2 := w1.1
    have w5 : E5 = "java/lang/IllegalStateException" := w1.2
    refine ok_ite (fun q6 => ?_) (fun q6 => ?_)
    · have pf7 : (0 : Int32) ≤ (1 : Int32) ∧ (1 : Int32) ≤ (1 : Int32) := by
        exact ⟨by grind, by grind⟩
      exact ok_some ⟨hX2, pf7⟩
    · exact absurd (by grind : False) id
theorem s_L_submit {A : Nat → Nat → Nat → Prop} {B : SS} (X : SS) (hX : IV A B X) (O : SS) (p1 : Int32) (p2 : Int32) (a1 : A 0 0 11) (a2 : ∀ j, 1 ≤ j → A 1 j 2) (a3 : ∀ j, A 112 j 10) (a4 : ∀ j, A 12 j 11) (a5 : ∀ j, A 12 j 12) (a6 : ∀ j, A 12 j 13) (a7 : ∀ j, A 12 j 14) (a8 : ∀ j, A 12 j 7) (a9 : ∀ j, A 12 j 8) (a10 : ∀ j, A 12 j 9) (a11 : ∀ j p, A 13 j p) (a12 : A 16 1 4) (a13 : A 16 1 5) (a14 : A 16 1 6) (a15 : A 16 1 7) (a16 : A 16 1 8) (a17 : ∀ p, A 17 1 p) (a18 : ∀ p, A 18 1 p) (a19 : ∀ p, A 19 1 p) (a20 : ∀ j p, 1 ≤ j → A 2 j p) (a21 : ∀ p, A 20 1 p) (a22 : ∀ j p, 1 ≤ j → A 3 j p) : ok (f_L_submit X O p1 p2) (fun r => IV A B r.1 ∧ (0 : Int32) ≤ r.2.2 ∧ r.2.2 ≤ (3 : Int32)) := by
  unfold f_L_submit
  refine ok_e1 (s_X6_submit X hX p1 p2 (a1) a2 a3 a4 a5 a6 a7 a8 a9 a10 a11 (a12) (a13) (a14) (a15) (a16) (fun p => a17 p) (fun p => a18 p) (fun p => a19 p) a20 (fun p => a21 p) a22) (fun X2 v1 w1 => ?_) (fun X2 E5 w1 => ?_)
  · have hX2 : IV A B X2 := w1.1
    have w2 : ((-1) : Int32) ≤ v1 ∧ v1 ≤ (39 : Int32) := w1.2
    refine ok_lq (fun O11 eq_3 => ?_)
    have pf4 : (0 : Int32) ≤ (0 : Int32) ∧ (0 : Int32) ≤ (3 : Int32) := by
      exact ⟨by grind, by grind⟩
    exact ok_some ⟨hX2, pf4⟩
  · have hX2 : IV A B X2 := w1.1
    have w5 : E5 = "java/lang/IllegalStateException" ∨ E5 = "java/lang/IndexOutOfBoundsException" ∨ E5 = "java/lang/UnsupportedOperationException" := w1.2
    refine ok_ite (fun q6 => ?_) (fun q6 => ?_)
    · have pf7 : (0 : Int32) ≤ (1 : Int32) ∧ (1 : Int32) ≤ (3 : Int32) := by
        exact ⟨by grind, by grind⟩
      exact ok_some ⟨hX2, pf7⟩
    · refine ok_ite (fun q8 => ?_) (fun q8 => ?_)
      · have pf9 : (0 : Int32) ≤ (2 : Int32) ∧ (2 : Int32) ≤ (3 : Int32) := by
          exact ⟨by grind, by grind⟩
        exact ok_some ⟨hX2, pf9⟩
      · refine ok_ite (fun q10 => ?_) (fun q10 => ?_)
        · have pf11 : (0 : Int32) ≤ (3 : Int32) ∧ (3 : Int32) ≤ (3 : Int32) := by
            exact ⟨by grind, by grind⟩
          exact ok_some ⟨hX2, pf11⟩
        · exact absurd (by grind : False) id
theorem s_L_of {A : Nat → Nat → Nat → Prop} {B : SS} (X : SS) (hX : IV A B X) (O : SS) (p1 : Int32) (p2 : Int32) : ok (f_L_of X O p1 p2) (fun r => (0 : Int32) ≤ r.2 ∧ r.2 ≤ (2 : Int32)) := by
  unfold f_L_of
  refine ok_e0 (s_X6_of X hX p1 p2) (fun v1 w1 => ?_) (fun E4 w1 => ?_)
  · refine ok_lq (fun O9 eq_2 => ?_)
    have pf3 : (0 : Int32) ≤ (0 : Int32) ∧ (0 : Int32) ≤ (2 : Int32) := by
      exact ⟨by grind, by grind⟩
    exact ok_some pf3
  · have w4 : E4 = "java/lang/IllegalArgumentException" ∨ E4 = "java/lang/IndexOutOfBoundsException" := w1
    refine ok_ite (fun q5 => ?_) (fun q5 => ?_)
    · have pf6 : (0 : Int32) ≤ (1 : Int32) ∧ (1 : Int32) ≤ (2 : Int32) := by
        exact ⟨by grind, by grind⟩
      exact ok_some pf6
    · refine ok_ite (fun q7 => ?_) (fun q7 => ?_)
      · have pf8 : (0 : Int32) ≤ (2 : Int32) ∧ (2 : Int32) ≤ (2 : Int32) := by
          exact ⟨by grind, by grind⟩
        exact ok_some pf8
      · exact absurd (by grind : False) id
theorem s_L_state {A : Nat → Nat → Nat → Prop} {B : SS} (X : SS) (hX : IV A B X) (O : SS) (p1 : Int32) : ok (f_L_state X O p1) (fun r => (0 : Int32) ≤ r.2 ∧ r.2 ≤ (1 : Int32)) := by
  unfold f_L_state
  refine ok_e0 (s_X6_state X hX p1) (fun v1 w1 => ?_) (fun E4 w1 => ?_)
  · have w2 : (0 : Int32) ≤ v1 ∧ v1 ≤ (65535 : Int32) := w1
    refine ok_lq (fun O8 eq_3 => ?_)
    have pf4 : (0 : Int32) ≤ (0 : Int32) ∧ (0 : Int32) ≤ (1 : Int32) := by
      exact ⟨by grind, by grind⟩
    exact ok_some pf4
  · have w5 : E4 = "java/lang/IndexOutOfBoundsException" := w1
    refine ok_ite (fun q6 => ?_) (fun q6 => ?_)
    · have pf7 : (0 : Int32) ≤ (1 : Int32) ∧ (1 : Int32) ≤ (1 : Int32) := by
        exact ⟨by grind, by grind⟩
      exact ok_some pf7
    · exact absurd (by grind : False) id
theorem s_L_sum {A : Nat → Nat → Nat → Prop} {B : SS} (X : SS) (hX : IV A B X) (O : SS) (p1 : Int32) : ok (f_L_sum X O p1) (fun r => (0 : Int32) ≤ r.2 ∧ r.2 ≤ (1 : Int32)) := by
  unfold f_L_sum
  refine ok_e0 (s_X6_sum X hX p1) (fun v1 w1 => ?_) (fun E4 w1 => ?_)
  · refine ok_lq (fun O8 eq_2 => ?_)
    have pf3 : (0 : Int32) ≤ (0 : Int32) ∧ (0 : Int32) ≤ (1 : Int32) := by
      exact ⟨by grind, by grind⟩
    exact ok_some pf3
  · have w4 : E4 = "java/lang/IndexOutOfBoundsException" := w1
    refine ok_ite (fun q5 => ?_) (fun q5 => ?_)
    · have pf6 : (0 : Int32) ≤ (1 : Int32) ∧ (1 : Int32) ≤ (1 : Int32) := by
        exact ⟨by grind, by grind⟩
      exact ok_some pf6
    · exact absurd (by grind : False) id
theorem s_L_steps {A : Nat → Nat → Nat → Prop} {B : SS} (X : SS) (hX : IV A B X) (O : SS) (p1 : Int32) (p2 : Int32) (a1 : A 16 1 4) (a2 : A 16 1 5) (a3 : A 16 1 6) (a4 : A 16 1 7) (a5 : A 16 1 8) (a6 : ∀ p, A 17 1 p) (a7 : ∀ p, A 18 1 p) (a8 : ∀ p, A 19 1 p) (a9 : ∀ p, A 20 1 p) : ok (f_L_steps X O p1 p2) (fun r => IV A B r.1 ∧ (0 : Int32) ≤ r.2.2 ∧ r.2.2 ≤ (2 : Int32)) := by
  unfold f_L_steps
  refine ok_e1 (s_X6_steps X hX p1 p2 (a1) (a2) (a3) (a4) (a5) (fun p => a6 p) (fun p => a7 p) (fun p => a8 p) (fun p => a9 p)) (fun X2 v1 w1 => ?_) (fun X2 E5 w1 => ?_)
  · have hX2 : IV A B X2 := w1.1
    refine ok_lq (fun O10 eq_2 => ?_)
    have pf3 : (0 : Int32) ≤ (0 : Int32) ∧ (0 : Int32) ≤ (2 : Int32) := by
      exact ⟨by grind, by grind⟩
    exact ok_some ⟨hX2, pf3⟩
  · have hX2 : IV A B X2 := w1.1
    have w4 : E5 = "java/lang/IndexOutOfBoundsException" ∨ E5 = "java/util/NoSuchElementException" := w1.2
    refine ok_ite (fun q5 => ?_) (fun q5 => ?_)
    · have pf6 : (0 : Int32) ≤ (1 : Int32) ∧ (1 : Int32) ≤ (2 : Int32) := by
        exact ⟨by grind, by grind⟩
      exact ok_some ⟨hX2, pf6⟩
    · refine ok_ite (fun q7 => ?_) (fun q7 => ?_)
      · have pf8 : (0 : Int32) ≤ (2 : Int32) ∧ (2 : Int32) ≤ (2 : Int32) := by
          exact ⟨by grind, by grind⟩
        exact ok_some ⟨hX2, pf8⟩
      · exact absurd (by grind : False) id
theorem s_L_hasBody {A : Nat → Nat → Nat → Prop} {B : SS} (X : SS) (hX : IV A B X) (O : SS) (p1 : Int32) : ok (f_L_hasBody X O p1) (fun r => (0 : Int32) ≤ r.2 ∧ r.2 ≤ (1 : Int32)) := by
  unfold f_L_hasBody
  refine ok_e0 (s_X6_hasBody X hX p1) (fun v1 w1 => ?_) (fun E4 w1 => ?_)
  · have w2 : (0 : Int32) ≤ v1 ∧ v1 ≤ (1 : Int32) := w1
    refine ok_ite (fun q3 => ?_) (fun q3 => ?_)
    · refine ok_lq (fun O9 eq_4 => ?_)
      have pf5 : (0 : Int32) ≤ (0 : Int32) ∧ (0 : Int32) ≤ (1 : Int32) := by
        exact ⟨by grind, by grind⟩
      exact ok_some pf5
    · refine ok_lq (fun O10 eq_6 => ?_)
      have pf7 : (0 : Int32) ≤ (0 : Int32) ∧ (0 : Int32) ≤ (1 : Int32) := by
        exact ⟨by grind, by grind⟩
      exact ok_some pf7
  · have w8 : E4 = "java/lang/IndexOutOfBoundsException" := w1
    refine ok_ite (fun q9 => ?_) (fun q9 => ?_)
    · have pf10 : (0 : Int32) ≤ (1 : Int32) ∧ (1 : Int32) ≤ (1 : Int32) := by
        exact ⟨by grind, by grind⟩
      exact ok_some pf10
    · exact absurd (by grind : False) id
theorem s_L_letter {A : Nat → Nat → Nat → Prop} {B : SS} (X : SS) (hX : IV A B X) (O : SS) (p1 : Int32) (p2 : Int32) : ok (f_L_letter X O p1 p2) (fun r => (0 : Int32) ≤ r.2 ∧ r.2 ≤ (2 : Int32)) := by
  unfold f_L_letter
  refine ok_e0 (s_X6_letter X hX p1 p2) (fun v1 w1 => ?_) (fun E4 w1 => ?_)
  · have w2 : (0 : Int32) ≤ v1 ∧ v1 ≤ (65535 : Int32) := w1
    refine ok_lq (fun O9 eq_3 => ?_)
    have pf4 : (0 : Int32) ≤ (0 : Int32) ∧ (0 : Int32) ≤ (2 : Int32) := by
      exact ⟨by grind, by grind⟩
    exact ok_some pf4
  · have w5 : E4 = "java/lang/IndexOutOfBoundsException" ∨ E4 = "java/util/NoSuchElementException" := w1
    refine ok_ite (fun q6 => ?_) (fun q6 => ?_)
    · have pf7 : (0 : Int32) ≤ (1 : Int32) ∧ (1 : Int32) ≤ (2 : Int32) := by
        exact ⟨by grind, by grind⟩
      exact ok_some pf7
    · refine ok_ite (fun q8 => ?_) (fun q8 => ?_)
      · have pf9 : (0 : Int32) ≤ (2 : Int32) ∧ (2 : Int32) ≤ (2 : Int32) := by
          exact ⟨by grind, by grind⟩
        exact ok_some pf9
      · exact absurd (by grind : False) id
theorem s_L_drop {A : Nat → Nat → Nat → Prop} {B : SS} (X : SS) (hX : IV A B X) (O : SS) (p1 : Int32) (a1 : ∀ j, 1 ≤ j → A 1 j 2) (a2 : ∀ j, A 12 j 11) (a3 : ∀ j, A 12 j 12) (a4 : ∀ j, A 12 j 13) (a5 : ∀ j, A 12 j 14) (a6 : ∀ j p, A 13 j p) (a7 : A 16 1 4) (a8 : A 16 1 5) (a9 : A 16 1 6) (a10 : A 16 1 7) (a11 : A 16 1 8) (a12 : ∀ p, A 17 1 p) (a13 : ∀ p, A 18 1 p) (a14 : ∀ p, A 19 1 p) (a15 : ∀ p, A 20 1 p) : ok (f_L_drop X O p1) (fun r => IV A B r.1 ∧ (0 : Int32) ≤ r.2.2 ∧ r.2.2 ≤ (2 : Int32)) := by
  unfold f_L_drop
  refine ok_e1 (s_X6_drop X hX p1 a1 a2 a3 a4 a5 a6 (a7) (a8) (a9) (a10) (a11) (fun p => a12 p) (fun p => a13 p) (fun p => a14 p) (fun p => a15 p)) (fun X2 v1 w1 => ?_) (fun X2 E5 w1 => ?_)
  · have hX2 : IV A B X2 := w1.1
    refine ok_lq (fun O10 eq_2 => ?_)
    have pf3 : (0 : Int32) ≤ (0 : Int32) ∧ (0 : Int32) ≤ (2 : Int32) := by
      exact ⟨by grind, by grind⟩
    exact ok_some ⟨hX2, pf3⟩
  · have hX2 : IV A B X2 := w1.1
    have w4 : E5 = "java/lang/IndexOutOfBoundsException" ∨ E5 = "java/lang/UnsupportedOperationException" := w1.2
    refine ok_ite (fun q5 => ?_) (fun q5 => ?_)
    · have pf6 : (0 : Int32) ≤ (1 : Int32) ∧ (1 : Int32) ≤ (2 : Int32) := by
        exact ⟨by grind, by grind⟩
      exact ok_some ⟨hX2, pf6⟩
    · refine ok_ite (fun q7 => ?_) (fun q7 => ?_)
      · have pf8 : (0 : Int32) ≤ (2 : Int32) ∧ (2 : Int32) ≤ (2 : Int32) := by
          exact ⟨by grind, by grind⟩
        exact ok_some ⟨hX2, pf8⟩
      · exact absurd (by grind : False) id
theorem s_L_capacity {A : Nat → Nat → Nat → Prop} {B : SS} (X : SS) (hX : IV A B X) (O : SS) (p1 : Int32) (a1 : A 0 0 13) (a2 : ∀ j, 1 ≤ j → A 1 j 2) (a3 : ∀ j, A 12 j 11) (a4 : ∀ j, A 12 j 12) (a5 : ∀ j, A 12 j 13) (a6 : ∀ j, A 12 j 14) (a7 : ∀ j p, A 13 j p) (a8 : A 16 1 4) (a9 : A 16 1 5) (a10 : A 16 1 6) (a11 : A 16 1 7) (a12 : A 16 1 8) (a13 : ∀ p, A 17 1 p) (a14 : ∀ p, A 18 1 p) (a15 : ∀ p, A 19 1 p) (a16 : ∀ p, A 20 1 p) : ok (f_L_capacity X O p1) (fun r => IV A B r.1 ∧ (0 : Int32) ≤ r.2.2 ∧ r.2.2 ≤ (1 : Int32)) := by
  unfold f_L_capacity
  refine ok_e1 (s_X6_capacity X hX p1 (a1) a2 a3 a4 a5 a6 a7 (a8) (a9) (a10) (a11) (a12) (fun p => a13 p) (fun p => a14 p) (fun p => a15 p) (fun p => a16 p)) (fun X2 v1 w1 => ?_) (fun X2 E5 w1 => ?_)
  · have hX2 : IV A B X2 := w1.1
    refine ok_lq (fun O9 eq_2 => ?_)
    have pf3 : (0 : Int32) ≤ (0 : Int32) ∧ (0 : Int32) ≤ (1 : Int32) := by
      exact ⟨by grind, by grind⟩
    exact ok_some ⟨hX2, pf3⟩
  · have hX2 : IV A B X2 := w1.1
    have w4 : E5 = "java/lang/IllegalArgumentException" := w1.2
    refine ok_ite (fun q5 => ?_) (fun q5 => ?_)
    · have pf6 : (0 : Int32) ≤ (1 : Int32) ∧ (1 : Int32) ≤ (1 : Int32) := by
        exact ⟨by grind, by grind⟩
      exact ok_some ⟨hX2, pf6⟩
    · exact absurd (by grind : False) id
theorem s_L_read {A : Nat → Nat → Nat → Prop} {B : SS} (X : SS) (hX : IV A B X) (O : SS) (p1 : Int32) (p2 : Int32) (a1 : ∀ j, 1 ≤ j → A 1 j 2) (a2 : ∀ j p, A 11 j p) (a3 : ∀ j p, 1 ≤ j → A 2 j p) (a4 : ∀ j p, A 210 j p) (a5 : ∀ j p, 1 ≤ j → A 3 j p) (a6 : ∀ j, A 9 j 2) : ok (f_L_read X O p1 p2) (fun r => IV A B r.1 ∧ (0 : Int32) ≤ r.2.2 ∧ r.2.2 ≤ (2 : Int32)) := by
  unfold f_L_read
  refine ok_e1 (s_X6_read X hX p1 p2 a1 a2 a3 a4 a5 a6) (fun X2 v1 w1 => ?_) (fun X2 E5 w1 => ?_)
  · have hX2 : IV A B X2 := w1.1
    have w2 : (0 : Int32) ≤ v1 ∧ v1 ≤ (3 : Int32) := w1.2
    refine ok_lq (fun O10 eq_3 => ?_)
    have pf4 : (0 : Int32) ≤ (0 : Int32) ∧ (0 : Int32) ≤ (2 : Int32) := by
      exact ⟨by grind, by grind⟩
    exact ok_some ⟨hX2, pf4⟩
  · have hX2 : IV A B X2 := w1.1
    have w5 : E5 = "java/lang/IndexOutOfBoundsException" ∨ E5 = "java/util/NoSuchElementException" := w1.2
    refine ok_ite (fun q6 => ?_) (fun q6 => ?_)
    · have pf7 : (0 : Int32) ≤ (1 : Int32) ∧ (1 : Int32) ≤ (2 : Int32) := by
        exact ⟨by grind, by grind⟩
      exact ok_some ⟨hX2, pf7⟩
    · refine ok_ite (fun q8 => ?_) (fun q8 => ?_)
      · have pf9 : (0 : Int32) ≤ (2 : Int32) ∧ (2 : Int32) ≤ (2 : Int32) := by
          exact ⟨by grind, by grind⟩
        exact ok_some ⟨hX2, pf9⟩
      · exact absurd (by grind : False) id
theorem s_L_copy {A : Nat → Nat → Nat → Prop} {B : SS} (X : SS) (hX : IV A B X) (O : SS) (p1 : Int32) (p2 : Int32) : ok (f_L_copy X O p1 p2) (fun r => (0 : Int32) ≤ r.2 ∧ r.2 ≤ (2 : Int32)) := by
  unfold f_L_copy
  refine ok_e0 (s_X6_copy X hX p1 p2) (fun v1 w1 => ?_) (fun E4 w1 => ?_)
  · refine ok_lq (fun O9 eq_2 => ?_)
    have pf3 : (0 : Int32) ≤ (0 : Int32) ∧ (0 : Int32) ≤ (2 : Int32) := by
      exact ⟨by grind, by grind⟩
    exact ok_some pf3
  · have w4 : E4 = "java/lang/IndexOutOfBoundsException" ∨ E4 = "java/util/NoSuchElementException" := w1
    refine ok_ite (fun q5 => ?_) (fun q5 => ?_)
    · have pf6 : (0 : Int32) ≤ (1 : Int32) ∧ (1 : Int32) ≤ (2 : Int32) := by
        exact ⟨by grind, by grind⟩
      exact ok_some pf6
    · refine ok_ite (fun q7 => ?_) (fun q7 => ?_)
      · have pf8 : (0 : Int32) ≤ (2 : Int32) ∧ (2 : Int32) ≤ (2 : Int32) := by
          exact ⟨by grind, by grind⟩
        exact ok_some pf8
      · exact absurd (by grind : False) id
theorem s_L_vote {A : Nat → Nat → Nat → Prop} {B : SS} (X : SS) (hX : IV A B X) (O : SS) (p1 : Int32) (p2 : Int32) (p3 : Int32) (a1 : ∀ j, A 12 j 4) (a2 : ∀ j, A 12 j 5) (a3 : ∀ j, A 12 j 6) (a4 : ∀ j p, A 14 j p) (a5 : ∀ j p, A 15 j p) (a6 : ∀ p, A 25 0 p) : ok (f_L_vote X O p1 p2 p3) (fun r => IV A B r.1 ∧ (0 : Int32) ≤ r.2.2 ∧ r.2.2 ≤ (3 : Int32)) := by
  unfold f_L_vote
  refine ok_e1 (s_X6_vote X hX p1 p2 p3 a1 a2 a3 a4 a5 (fun p => a6 p)) (fun X2 v1 w1 => ?_) (fun X2 E5 w1 => ?_)
  · have hX2 : IV A B X2 := w1.1
    have w2 : (1 : Int32) ≤ v1 ∧ v1 ≤ (6 : Int32) := w1.2
    refine ok_lq (fun O11 eq_3 => ?_)
    have pf4 : (0 : Int32) ≤ (0 : Int32) ∧ (0 : Int32) ≤ (3 : Int32) := by
      exact ⟨by grind, by grind⟩
    exact ok_some ⟨hX2, pf4⟩
  · have hX2 : IV A B X2 := w1.1
    have w5 : E5 = "java/lang/IllegalArgumentException" ∨ E5 = "java/lang/IndexOutOfBoundsException" ∨ E5 = "java/lang/UnsupportedOperationException" := w1.2
    refine ok_ite (fun q6 => ?_) (fun q6 => ?_)
    · have pf7 : (0 : Int32) ≤ (1 : Int32) ∧ (1 : Int32) ≤ (3 : Int32) := by
        exact ⟨by grind, by grind⟩
      exact ok_some ⟨hX2, pf7⟩
    · refine ok_ite (fun q8 => ?_) (fun q8 => ?_)
      · have pf9 : (0 : Int32) ≤ (2 : Int32) ∧ (2 : Int32) ≤ (3 : Int32) := by
          exact ⟨by grind, by grind⟩
        exact ok_some ⟨hX2, pf9⟩
      · refine ok_ite (fun q10 => ?_) (fun q10 => ?_)
        · have pf11 : (0 : Int32) ≤ (3 : Int32) ∧ (3 : Int32) ≤ (3 : Int32) := by
            exact ⟨by grind, by grind⟩
          exact ok_some ⟨hX2, pf11⟩
        · exact absurd (by grind : False) id
theorem s_L_style {A : Nat → Nat → Nat → Prop} {B : SS} (X : SS) (hX : IV A B X) (O : SS) (p1 : Int32) (p2 : Int32) : ok (f_L_style X O p1 p2) (fun r => (0 : Int32) ≤ r.2 ∧ r.2 ≤ (1 : Int32)) := by
  unfold f_L_style
  refine ok_e0 (s_X6_style X hX p1 p2) (fun v1 w1 => ?_) (fun E4 w1 => ?_)
  · refine ok_lq (fun O8 eq_2 => ?_)
    have pf3 : (0 : Int32) ≤ (0 : Int32) ∧ (0 : Int32) ≤ (1 : Int32) := by
      exact ⟨by grind, by grind⟩
    exact ok_some pf3
  · have w4 : E4 = "java/lang/IndexOutOfBoundsException" := w1
    refine ok_ite (fun q5 => ?_) (fun q5 => ?_)
    · have pf6 : (0 : Int32) ≤ (1 : Int32) ∧ (1 : Int32) ≤ (1 : Int32) := by
        exact ⟨by grind, by grind⟩
      exact ok_some pf6
    · exact absurd (by grind : False) id
theorem s_L_review {A : Nat → Nat → Nat → Prop} {B : SS} (X : SS) (hX : IV A B X) (O : SS) (p1 : Int32) : ok (f_L_review X O p1) (fun r => (0 : Int32) ≤ r.2 ∧ r.2 ≤ (2 : Int32)) := by
  unfold f_L_review
  refine ok_e0 (s_X6_review X hX p1) (fun v1 w1 => ?_) (fun E4 w1 => ?_)
  · have w2 : (0 : Int32) ≤ v1 ∧ v1 ≤ (39 : Int32) := w1
    refine ok_lq (fun O9 eq_3 => ?_)
    have pf4 : (0 : Int32) ≤ (0 : Int32) ∧ (0 : Int32) ≤ (2 : Int32) := by
      exact ⟨by grind, by grind⟩
    exact ok_some pf4
  · have w5 : E4 = "java/lang/IndexOutOfBoundsException" ∨ E4 = "java/util/NoSuchElementException" := w1
    refine ok_ite (fun q6 => ?_) (fun q6 => ?_)
    · have pf7 : (0 : Int32) ≤ (1 : Int32) ∧ (1 : Int32) ≤ (2 : Int32) := by
        exact ⟨by grind, by grind⟩
      exact ok_some pf7
    · refine ok_ite (fun q8 => ?_) (fun q8 => ?_)
      · have pf9 : (0 : Int32) ≤ (2 : Int32) ∧ (2 : Int32) ≤ (2 : Int32) := by
          exact ⟨by grind, by grind⟩
        exact ok_some pf9
      · exact absurd (by grind : False) id
theorem s_L_best {A : Nat → Nat → Nat → Prop} {B : SS} (X : SS) (hX : IV A B X) (O : SS) (p1 : Int32) (p2 : Int32) (a1 : ∀ p, A 25 0 p) : ok (f_L_best X O p1 p2) (fun r => IV A B r.1 ∧ (0 : Int32) ≤ r.2.2 ∧ r.2.2 ≤ (2 : Int32)) := by
  unfold f_L_best
  refine ok_e1 (s_X6_best X hX p1 p2 (fun p => a1 p)) (fun X2 v1 w1 => ?_) (fun X2 E5 w1 => ?_)
  · have hX2 : IV A B X2 := w1.1
    have w2 : (0 : Int32) ≤ v1 ∧ v1 ≤ (39 : Int32) := w1.2
    refine ok_lq (fun O10 eq_3 => ?_)
    have pf4 : (0 : Int32) ≤ (0 : Int32) ∧ (0 : Int32) ≤ (2 : Int32) := by
      exact ⟨by grind, by grind⟩
    exact ok_some ⟨hX2, pf4⟩
  · have hX2 : IV A B X2 := w1.1
    have w5 : E5 = "java/lang/IndexOutOfBoundsException" ∨ E5 = "java/util/NoSuchElementException" := w1.2
    refine ok_ite (fun q6 => ?_) (fun q6 => ?_)
    · have pf7 : (0 : Int32) ≤ (1 : Int32) ∧ (1 : Int32) ≤ (2 : Int32) := by
        exact ⟨by grind, by grind⟩
      exact ok_some ⟨hX2, pf7⟩
    · refine ok_ite (fun q8 => ?_) (fun q8 => ?_)
      · have pf9 : (0 : Int32) ≤ (2 : Int32) ∧ (2 : Int32) ≤ (2 : Int32) := by
          exact ⟨by grind, by grind⟩
        exact ok_some ⟨hX2, pf9⟩
      · exact absurd (by grind : False) id
theorem s_L_points {A : Nat → Nat → Nat → Prop} {B : SS} (X : SS) (hX : IV A B X) (O : SS) (p1 : Int32) (a1 : ∀ p, A 25 0 p) : ok (f_L_points X O p1) (fun r => IV A B r.1 ∧ (0 : Int32) ≤ r.2.2 ∧ r.2.2 ≤ (1 : Int32)) := by
  unfold f_L_points
  refine ok_e1 (s_X6_points X hX p1 (fun p => a1 p)) (fun X2 v1 w1 => ?_) (fun X2 E5 w1 => ?_)
  · have hX2 : IV A B X2 := w1.1
    have nv1 : vf_n32 v1 := w1.2
    refine ok_gd ?_ (fun g2 => ?_)
    · exact nn_f2d nv1
    refine ok_lq (fun O10 eq_3 => ?_)
    have pf4 : (0 : Int32) ≤ (0 : Int32) ∧ (0 : Int32) ≤ (1 : Int32) := by
      exact ⟨by grind, by grind⟩
    exact ok_some ⟨hX2, pf4⟩
  · have hX2 : IV A B X2 := w1.1
    have w5 : E5 = "java/lang/IndexOutOfBoundsException" := w1.2
    refine ok_ite (fun q6 => ?_) (fun q6 => ?_)
    · have pf7 : (0 : Int32) ≤ (1 : Int32) ∧ (1 : Int32) ≤ (1 : Int32) := by
        exact ⟨by grind, by grind⟩
      exact ok_some ⟨hX2, pf7⟩
    · exact absurd (by grind : False) id
theorem s_L_belt {A : Nat → Nat → Nat → Prop} {B : SS} (X : SS) (hX : IV A B X) (O : SS) (p1 : Int32) (a1 : ∀ p, A 25 0 p) : ok (f_L_belt X O p1) (fun r => IV A B r.1 ∧ (0 : Int32) ≤ r.2.2 ∧ r.2.2 ≤ (1 : Int32)) := by
  unfold f_L_belt
  refine ok_e1 (s_X6_belt X hX p1 (fun p => a1 p)) (fun X2 v1 w1 => ?_) (fun X2 E5 w1 => ?_)
  · have hX2 : IV A B X2 := w1.1
    have w2 : (0 : Int32) ≤ v1 ∧ v1 ≤ (5 : Int32) := w1.2
    refine ok_lq (fun O9 eq_3 => ?_)
    have pf4 : (0 : Int32) ≤ (0 : Int32) ∧ (0 : Int32) ≤ (1 : Int32) := by
      exact ⟨by grind, by grind⟩
    exact ok_some ⟨hX2, pf4⟩
  · have hX2 : IV A B X2 := w1.1
    have w5 : E5 = "java/lang/IndexOutOfBoundsException" := w1.2
    refine ok_ite (fun q6 => ?_) (fun q6 => ?_)
    · have pf7 : (0 : Int32) ≤ (1 : Int32) ∧ (1 : Int32) ≤ (1 : Int32) := by
        exact ⟨by grind, by grind⟩
      exact ok_some ⟨hX2, pf7⟩
    · exact absurd (by grind : False) id
theorem s_L_honour {A : Nat → Nat → Nat → Prop} {B : SS} (X : SS) (hX : IV A B X) (O : SS) (p1 : Int32) : ok (f_L_honour X O p1) (fun r => (0 : Int32) ≤ r.2 ∧ r.2 ≤ (1 : Int32)) := by
  unfold f_L_honour
  refine ok_e0 (s_X6_honour X hX p1) (fun v1 w1 => ?_) (fun E4 w1 => ?_)
  · refine ok_lq (fun O8 eq_2 => ?_)
    have pf3 : (0 : Int32) ≤ (0 : Int32) ∧ (0 : Int32) ≤ (1 : Int32) := by
      exact ⟨by grind, by grind⟩
    exact ok_some pf3
  · have w4 : E4 = "java/lang/IndexOutOfBoundsException" := w1
    refine ok_ite (fun q5 => ?_) (fun q5 => ?_)
    · have pf6 : (0 : Int32) ≤ (1 : Int32) ∧ (1 : Int32) ≤ (1 : Int32) := by
        exact ⟨by grind, by grind⟩
      exact ok_some pf6
    · exact absurd (by grind : False) id
theorem s_L_ranked {A : Nat → Nat → Nat → Prop} {B : SS} (X : SS) (hX : IV A B X) (O : SS) (p1 : Int32) (a1 : ∀ p, A 25 0 p) : ok (f_L_ranked X O p1) (fun r => IV A B r.1 ∧ (0 : Int32) ≤ r.2.2 ∧ r.2.2 ≤ (1 : Int32)) := by
  unfold f_L_ranked
  refine ok_e1 (s_X6_ranked X hX p1 (fun p => a1 p)) (fun X2 v1 w1 => ?_) (fun X2 E5 w1 => ?_)
  · have hX2 : IV A B X2 := w1.1
    have w2 : (0 : Int32) ≤ v1 ∧ v1 ≤ (9 : Int32) := w1.2
    refine ok_lq (fun O9 eq_3 => ?_)
    have pf4 : (0 : Int32) ≤ (0 : Int32) ∧ (0 : Int32) ≤ (1 : Int32) := by
      exact ⟨by grind, by grind⟩
    exact ok_some ⟨hX2, pf4⟩
  · have hX2 : IV A B X2 := w1.1
    have w5 : E5 = "java/util/NoSuchElementException" := w1.2
    refine ok_ite (fun q6 => ?_) (fun q6 => ?_)
    · have pf7 : (0 : Int32) ≤ (1 : Int32) ∧ (1 : Int32) ≤ (1 : Int32) := by
        exact ⟨by grind, by grind⟩
      exact ok_some ⟨hX2, pf7⟩
    · exact absurd (by grind : False) id
theorem s_L_challenge {A : Nat → Nat → Nat → Prop} {B : SS} (X : SS) (hX : IV A B X) (O : SS) (p1 : Int32) (p2 : Int32) (a1 : A 0 0 12) (a2 : ∀ j, A 12 j 11) (a3 : ∀ j, A 12 j 15) (a4 : ∀ j, A 12 j 16) (a5 : ∀ p, A 24 0 p) (a6 : ∀ j, A 9 j 3) : ok (f_L_challenge X O p1 p2) (fun r => IV A B r.1 ∧ (0 : Int32) ≤ r.2.2 ∧ r.2.2 ≤ (3 : Int32)) := by
  unfold f_L_challenge
  refine ok_e1 (s_X6_challenge X hX p1 p2 (a1) a2 a3 a4 (fun p => a5 p) a6) (fun X2 v1 w1 => ?_) (fun X2 E5 w1 => ?_)
  · have hX2 : IV A B X2 := w1.1
    have w2 : (0 : Int32) ≤ v1 ∧ v1 ≤ (8 : Int32) := w1.2
    refine ok_lq (fun O11 eq_3 => ?_)
    have pf4 : (0 : Int32) ≤ (0 : Int32) ∧ (0 : Int32) ≤ (3 : Int32) := by
      exact ⟨by grind, by grind⟩
    exact ok_some ⟨hX2, pf4⟩
  · have hX2 : IV A B X2 := w1.1
    have w5 : E5 = "java/lang/IllegalStateException" ∨ E5 = "java/lang/IndexOutOfBoundsException" ∨ E5 = "java/lang/UnsupportedOperationException" := w1.2
    refine ok_ite (fun q6 => ?_) (fun q6 => ?_)
    · have pf7 : (0 : Int32) ≤ (1 : Int32) ∧ (1 : Int32) ≤ (3 : Int32) := by
        exact ⟨by grind, by grind⟩
      exact ok_some ⟨hX2, pf7⟩
    · refine ok_ite (fun q8 => ?_) (fun q8 => ?_)
      · have pf9 : (0 : Int32) ≤ (2 : Int32) ∧ (2 : Int32) ≤ (3 : Int32) := by
          exact ⟨by grind, by grind⟩
        exact ok_some ⟨hX2, pf9⟩
      · refine ok_ite (fun q10 => ?_) (fun q10 => ?_)
        · have pf11 : (0 : Int32) ≤ (3 : Int32) ∧ (3 : Int32) ≤ (3 : Int32) := by
            exact ⟨by grind, by grind⟩
          exact ok_some ⟨hX2, pf11⟩
        · exact absurd (by grind : False) id
theorem s_L_give {A : Nat → Nat → Nat → Prop} {B : SS} (X : SS) (hX : IV A B X) (O : SS) (p1 : Int32) (p2 : Int32) (a1 : A 0 0 12) (a2 : ∀ j, 1 ≤ j → A 1 j 2) (a3 : ∀ j, A 12 j 11) (a4 : ∀ j, A 12 j 12) (a5 : ∀ j, A 12 j 13) (a6 : ∀ j, A 12 j 14) (a7 : ∀ j p, A 13 j p) (a8 : A 16 1 4) (a9 : A 16 1 5) (a10 : A 16 1 6) (a11 : A 16 1 7) (a12 : A 16 1 8) (a13 : ∀ p, A 17 1 p) (a14 : ∀ p, A 18 1 p) (a15 : ∀ p, A 19 1 p) (a16 : ∀ j p, 1 ≤ j → A 2 j p) (a17 : ∀ p, A 20 1 p) (a18 : ∀ p, A 24 0 p) (a19 : ∀ j p, 1 ≤ j → A 3 j p) (a20 : ∀ j, A 9 j 3) : ok (f_L_give X O p1 p2) (fun r => IV A B r.1 ∧ (0 : Int32) ≤ r.2.2 ∧ r.2.2 ≤ (3 : Int32)) := by
  unfold f_L_give
  refine ok_e1 (s_X6_give X hX p1 p2 (a1) a2 a3 a4 a5 a6 a7 (a8) (a9) (a10) (a11) (a12) (fun p => a13 p) (fun p => a14 p) (fun p => a15 p) a16 (fun p => a17 p) (fun p => a18 p) a19 a20) (fun X2 v1 w1 => ?_) (fun X2 E5 w1 => ?_)
  · have hX2 : IV A B X2 := w1.1
    have w2 : (98 : Int32) ≤ v1 ∧ v1 ≤ (115 : Int32) := w1.2
    refine ok_lq (fun O11 eq_3 => ?_)
    have pf4 : (0 : Int32) ≤ (0 : Int32) ∧ (0 : Int32) ≤ (3 : Int32) := by
      exact ⟨by grind, by grind⟩
    exact ok_some ⟨hX2, pf4⟩
  · have hX2 : IV A B X2 := w1.1
    have w5 : E5 = "java/lang/IndexOutOfBoundsException" ∨ E5 = "java/lang/UnsupportedOperationException" ∨ E5 = "java/util/NoSuchElementException" := w1.2
    refine ok_ite (fun q6 => ?_) (fun q6 => ?_)
    · have pf7 : (0 : Int32) ≤ (1 : Int32) ∧ (1 : Int32) ≤ (3 : Int32) := by
        exact ⟨by grind, by grind⟩
      exact ok_some ⟨hX2, pf7⟩
    · refine ok_ite (fun q8 => ?_) (fun q8 => ?_)
      · have pf9 : (0 : Int32) ≤ (2 : Int32) ∧ (2 : Int32) ≤ (3 : Int32) := by
          exact ⟨by grind, by grind⟩
        exact ok_some ⟨hX2, pf9⟩
      · refine ok_ite (fun q10 => ?_) (fun q10 => ?_)
        · have pf11 : (0 : Int32) ≤ (3 : Int32) ∧ (3 : Int32) ≤ (3 : Int32) := by
            exact ⟨by grind, by grind⟩
          exact ok_some ⟨hX2, pf11⟩
        · exact absurd (by grind : False) id
theorem s_L_answer {A : Nat → Nat → Nat → Prop} {B : SS} (X : SS) (hX : IV A B X) (O : SS) (p1 : Int32) (p2 : Int32) (a1 : A 0 0 12) (a2 : ∀ j, 1 ≤ j → A 1 j 2) (a3 : ∀ j, A 12 j 11) (a4 : ∀ j, A 12 j 12) (a5 : ∀ j, A 12 j 13) (a6 : ∀ j, A 12 j 14) (a7 : ∀ j p, A 13 j p) (a8 : A 16 1 4) (a9 : A 16 1 5) (a10 : A 16 1 6) (a11 : A 16 1 7) (a12 : A 16 1 8) (a13 : ∀ p, A 17 1 p) (a14 : ∀ p, A 18 1 p) (a15 : ∀ p, A 19 1 p) (a16 : ∀ j p, 1 ≤ j → A 2 j p) (a17 : ∀ p, A 20 1 p) (a18 : ∀ p, A 24 0 p) (a19 : ∀ j p, 1 ≤ j → A 3 j p) (a20 : ∀ j, A 9 j 3) : ok (f_L_answer X O p1 p2) (fun r => IV A B r.1 ∧ (0 : Int32) ≤ r.2.2 ∧ r.2.2 ≤ (2 : Int32)) := by
  unfold f_L_answer
  refine ok_e1 (s_X6_answer X hX p1 p2 (a1) a2 a3 a4 a5 a6 a7 (a8) (a9) (a10) (a11) (a12) (fun p => a13 p) (fun p => a14 p) (fun p => a15 p) a16 (fun p => a17 p) (fun p => a18 p) a19 a20) (fun X2 v1 w1 => ?_) (fun X2 E5 w1 => ?_)
  · have hX2 : IV A B X2 := w1.1
    have w2 : (45 : Int32) ≤ v1 ∧ v1 ≤ (115 : Int32) := w1.2
    refine ok_lq (fun O10 eq_3 => ?_)
    have pf4 : (0 : Int32) ≤ (0 : Int32) ∧ (0 : Int32) ≤ (2 : Int32) := by
      exact ⟨by grind, by grind⟩
    exact ok_some ⟨hX2, pf4⟩
  · have hX2 : IV A B X2 := w1.1
    have w5 : E5 = "java/lang/IndexOutOfBoundsException" ∨ E5 = "java/lang/UnsupportedOperationException" := w1.2
    refine ok_ite (fun q6 => ?_) (fun q6 => ?_)
    · have pf7 : (0 : Int32) ≤ (1 : Int32) ∧ (1 : Int32) ≤ (2 : Int32) := by
        exact ⟨by grind, by grind⟩
      exact ok_some ⟨hX2, pf7⟩
    · refine ok_ite (fun q8 => ?_) (fun q8 => ?_)
      · have pf9 : (0 : Int32) ≤ (2 : Int32) ∧ (2 : Int32) ≤ (2 : Int32) := by
          exact ⟨by grind, by grind⟩
        exact ok_some ⟨hX2, pf9⟩
      · exact absurd (by grind : False) id
theorem s_L_open {A : Nat → Nat → Nat → Prop} {B : SS} (X : SS) (hX : IV A B X) (O : SS) (p1 : Int32) : ok (f_L_open X O p1) (fun r => (0 : Int32) ≤ r.2 ∧ r.2 ≤ (1 : Int32)) := by
  unfold f_L_open
  refine ok_e0 (s_X6_open X hX p1) (fun v1 w1 => ?_) (fun E4 w1 => ?_)
  · have w2 : (0 : Int32) ≤ v1 ∧ v1 ≤ (39 : Int32) := w1
    refine ok_lq (fun O8 eq_3 => ?_)
    have pf4 : (0 : Int32) ≤ (0 : Int32) ∧ (0 : Int32) ≤ (1 : Int32) := by
      exact ⟨by grind, by grind⟩
    exact ok_some pf4
  · have w5 : E4 = "java/util/NoSuchElementException" := w1
    refine ok_ite (fun q6 => ?_) (fun q6 => ?_)
    · have pf7 : (0 : Int32) ≤ (1 : Int32) ∧ (1 : Int32) ≤ (1 : Int32) := by
        exact ⟨by grind, by grind⟩
      exact ok_some pf7
    · exact absurd (by grind : False) id