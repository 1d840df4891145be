theorem s_X3_append {A : Nat → Nat → Nat → Prop} {B : SS} (X : SS) (hX : IV A B X) (i0 : Nat) (p0 : Int32) (p1 : Int32) (a1 : A 1 i0 2) (a2 : ∀ p, A 2 i0 p) (a3 : ∀ p, A 3 i0 p) : ok (f_X3_append X i0 p0 p1) (fun r => IV A B r.1 ∧ True) := by
  unfold f_X3_append
  refine ok_ite (fun q1 => ?_) (fun q1 => ?_)
  · exact ok_some ⟨hX, trivial⟩
  · refine ok_gd ?_ (fun g2 => ?_)
    · have c3 : (0 : Int32) ≤ (X.1 1 i0 2) ∧ (X.1 1 i0 2) ≤ (24 : Int32) := hX.at1 1 i0 2
      exact vp_of (by decide) (by grind) (show (X.1 1 i0 2) < (24 : Int32) by grind)
    have g2 := vp_to (by decide) g2
    have g2 : (0 : Int32) ≤ (X.1 1 i0 2) ∧ (X.1 1 i0 2) < (24 : Int32) := g2
    refine ok_lq (fun X3 eq_4 => ?_)
    have pf5 : (0 : Int32) ≤ (vp_nar .char p0) ∧ (vp_nar .char p0) ≤ (65535 : Int32) := by
      have c6 : (0 : Int32) ≤ (vp_nar .char p0) ∧ (vp_nar .char p0) ≤ (65535 : Int32) := nar_c _
      exact ⟨by grind, by grind⟩
    have hX3 : IV A B X3 := by rw [eq_4]; exact hX.w1 rfl (a2 (((X.1 1 i0 2)).toNatClampNeg)) pf5
    refine ok_gd ?_ (fun g7 => ?_)
    · have c8 : (0 : Int32) ≤ (vp_nar .char p0) ∧ (vp_nar .char p0) ≤ (65535 : Int32) := nar_c _
      have c9 : (0 : Int32) ≤ (X3.1 1 i0 2) ∧ (X3.1 1 i0 2) ≤ (24 : Int32) := hX3.at1 1 i0 2
      have c10 : (X3.1 1 i0 2) = (X.1 1 i0 2) := by rw [eq_4]; exact up_k (by decide)
      have c11 : (0 : Int32) ≤ (X.1 1 i0 2) ∧ (X.1 1 i0 2) ≤ (24 : Int32) := hX.at1 1 i0 2
      exact vp_of (by decide) (by grind) (show (X3.1 1 i0 2) < (24 : Int32) by grind)
    have g7 := vp_to (by decide) g7
    have g7 : (0 : Int32) ≤ (X3.1 1 i0 2) ∧ (X3.1 1 i0 2) < (24 : Int32) := g7
    refine ok_lq (fun X5 eq_12 => ?_)
    have hX5 : IV A B X5 := by rw [eq_12]; exact hX3.w1f rfl (a3 (((X3.1 1 i0 2)).toNatClampNeg)) rfl
    refine ok_lq (fun X6 eq_13 => ?_)
    have pf14 : (0 : Int32) ≤ ((X5.1 1 i0 2) + (1 : Int32)) ∧ ((X5.1 1 i0 2) + (1 : Int32)) ≤ (24 : Int32) := by
      have c15 : (0 : Int32) ≤ (vp_nar .char p0) ∧ (vp_nar .char p0) ≤ (65535 : Int32) := nar_c _
      have c16 : (0 : Int32) ≤ (X5.1 1 i0 2) ∧ (X5.1 1 i0 2) ≤ (24 : Int32) := hX5.at1 1 i0 2
      have c17 : (X5.1 1 i0 2) = (X3.1 1 i0 2) := by rw [eq_12]; exact up_k (by decide)
      have c18 : (0 : Int32) ≤ (X.1 1 i0 2) ∧ (X.1 1 i0 2) ≤ (24 : Int32) := hX.at1 1 i0 2
      have c19 : (0 : Int32) ≤ (X3.1 1 i0 2) ∧ (X3.1 1 i0 2) ≤ (24 : Int32) := hX3.at1 1 i0 2
      have c20 : (X3.1 1 i0 2) = (X.1 1 i0 2) := by rw [eq_4]; exact up_k (by decide)
      exact ⟨by grind, by grind⟩
    have hX6 : IV A B X6 := by rw [eq_13]; exact hX5.w1 rfl (a1) pf14
    exact ok_some ⟨hX6, trivial⟩
theorem s_X3_erase {A : Nat → Nat → Nat → Prop} {B : SS} (X : SS) (hX : IV A B X) (i0 : Nat) (a1 : A 1 i0 2) : ok (f_X3_erase X i0) (fun r => IV A B r.1 ∧ True) := by
  unfold f_X3_erase
  refine ok_lq (fun X1 eq_1 => ?_)
  have hX1 : IV A B X1 := by rw [eq_1]; exact hX.w1 rfl (a1) (show (0 : Int32) ≤ (0 : Int32) ∧ (0 : Int32) ≤ (24 : Int32) from ⟨by decide, by decide⟩)
  exact ok_some ⟨hX1, trivial⟩
theorem s_X3_isWhole_L4 {A : Nat → Nat → Nat → Prop} {B : SS} (X : SS) (hX : IV A B X) (i0 : Nat) : ∀ (n : Nat), ∀ (v3 : Int32) (v4 : Int32) (k1 : (Int32 → Option (Int32))), (FU v3 24 n) → ((0 : Int32) ≤ v3 ∧ v3 ≤ (24 : Int32)) → ((0 : Int32) ≤ v4 ∧ v4 ≤ (2147483647 : Int32)) → (∀ (k_0 : Int32), ((0 : Int32) ≤ k_0 ∧ k_0 ≤ (2147483647 : Int32)) → ok (k1 k_0) (fun r => (0 : Int32) ≤ r ∧ r ≤ (1 : Int32))) → ok (f_X3_isWhole_L4 X i0 n v3 v4 k1) (fun r => (0 : Int32) ≤ r ∧ r ≤ (1 : Int32)) := by
  intro n
  induction n with
  | zero =>
    intro v3 v4 k1 hF iv3 iv4 hk
    exact (FU.stop hF (show v3 ≤ (24 : Int32) by grind)).elim
  | succ n ih =>
    intro v3 v4 k1 hF iv3 iv4 hk
    rw [f_X3_isWhole_L4]
    refine ok_ite (fun q1 => ?_) (fun q1 => ?_)
    · have pf2 : (0 : Int32) ≤ v4 ∧ v4 ≤ (2147483647 : Int32) := by
        exact ⟨by grind, by grind⟩
      exact hk v4 pf2
    · refine ok_gd ?_ (fun g3 => ?_)
      · have c4 : (0 : Int32) ≤ (X.1 1 i0 2) ∧ (X.1 1 i0 2) ≤ (24 : Int32) := hX.at1 1 i0 2
        exact vp_of (by decide) (by grind) (show v3 < (24 : Int32) by grind)
      have g3 := vp_to (by decide) g3
      have g3 : (0 : Int32) ≤ v3 ∧ v3 < (24 : Int32) := g3
      refine ok_ite (fun q5 => ?_) (fun q5 => ?_)
      · refine ok_ite (fun q6 => ?_) (fun q6 => ?_)
        · have pf7 : FU (v3 + (1 : Int32)) 24 n := by
            have c8 : (0 : Int32) ≤ (X.1 1 i0 2) ∧ (X.1 1 i0 2) ≤ (24 : Int32) := hX.at1 1 i0 2
            have c9 : (0 : Int32) ≤ (X.1 2 i0 (v3).toNatClampNeg) ∧ (X.1 2 i0 (v3).toNatClampNeg) ≤ (65535 : Int32) := hX.at1 2 i0 ((v3).toNatClampNeg)
            exact FU.step hF (by grind)
          have pf10 : (0 : Int32) ≤ (v3 + (1 : Int32)) ∧ (v3 + (1 : Int32)) ≤ (24 : Int32) := by
            have c11 : (0 : Int32) ≤ (X.1 1 i0 2) ∧ (X.1 1 i0 2) ≤ (24 : Int32) := hX.at1 1 i0 2
            have c12 : (0 : Int32) ≤ (X.1 2 i0 (v3).toNatClampNeg) ∧ (X.1 2 i0 (v3).toNatClampNeg) ≤ (65535 : Int32) := hX.at1 2 i0 ((v3).toNatClampNeg)
            exact ⟨by grind, by grind⟩
          have pf13 : (0 : Int32) ≤ (v4 + (1 : Int32)) ∧ (v4 + (1 : Int32)) ≤ (2147483647 : Int32) := by
            exact ⟨by grind, by grind⟩
          exact ih (v3 + (1 : Int32)) (v4 + (1 : Int32)) k1 pf7 pf10 pf13 hk
        · have pf14 : (0 : Int32) ≤ (0 : Int32) ∧ (0 : Int32) ≤ (1 : Int32) := by
            exact ⟨by grind, by grind⟩
          exact ok_some pf14
      · refine ok_gd ?_ (fun g15 => ?_)
        · have c16 : (0 : Int32) ≤ (X.1 1 i0 2) ∧ (X.1 1 i0 2) ≤ (24 : Int32) := hX.at1 1 i0 2
          have c17 : (0 : Int32) ≤ (X.1 2 i0 (v3).toNatClampNeg) ∧ (X.1 2 i0 (v3).toNatClampNeg) ≤ (65535 : Int32) := hX.at1 2 i0 ((v3).toNatClampNeg)
          exact vp_of (by decide) (by grind) (show v3 < (24 : Int32) by grind)
        have g15 := vp_to (by decide) g15
        have g15 : (0 : Int32) ≤ v3 ∧ v3 < (24 : Int32) := g15
        refine ok_ite (fun q18 => ?_) (fun q18 => ?_)
        · refine ok_ite (fun q19 => ?_) (fun q19 => ?_)
          · have pf20 : FU (v3 + (1 : Int32)) 24 n := by
              have c21 : (0 : Int32) ≤ (X.1 1 i0 2) ∧ (X.1 1 i0 2) ≤ (24 : Int32) := hX.at1 1 i0 2
              have c22 : (0 : Int32) ≤ (X.1 2 i0 (v3).toNatClampNeg) ∧ (X.1 2 i0 (v3).toNatClampNeg) ≤ (65535 : Int32) := hX.at1 2 i0 ((v3).toNatClampNeg)
              exact FU.step hF (by grind)
            have pf23 : (0 : Int32) ≤ (v3 + (1 : Int32)) ∧ (v3 + (1 : Int32)) ≤ (24 : Int32) := by
              have c24 : (0 : Int32) ≤ (X.1 1 i0 2) ∧ (X.1 1 i0 2) ≤ (24 : Int32) := hX.at1 1 i0 2
              have c25 : (0 : Int32) ≤ (X.1 2 i0 (v3).toNatClampNeg) ∧ (X.1 2 i0 (v3).toNatClampNeg) ≤ (65535 : Int32) := hX.at1 2 i0 ((v3).toNatClampNeg)
              exact ⟨by grind, by grind⟩
            have pf26 : (0 : Int32) ≤ (v4 + ((-1) : Int32)) ∧ (v4 + ((-1) : Int32)) ≤ (2147483647 : Int32) := by
              exact ⟨by grind, by grind⟩
            exact ih (v3 + (1 : Int32)) (v4 + ((-1) : Int32)) k1 pf20 pf23 pf26 hk
          · have pf27 : (0 : Int32) ≤ (0 : Int32) ∧ (0 : Int32) ≤ (1 : Int32) := by
              exact ⟨by grind, by grind⟩
            exact ok_some pf27
        · refine ok_ite (fun q28 => ?_) (fun q28 => ?_)
          · have pf29 : FU (v3 + (1 : Int32)) 24 n := by
              have c30 : (0 : Int32) ≤ (X.1 1 i0 2) ∧ (X.1 1 i0 2) ≤ (24 : Int32) := hX.at1 1 i0 2
              have c31 : (0 : Int32) ≤ (X.1 2 i0 (v3).toNatClampNeg) ∧ (X.1 2 i0 (v3).toNatClampNeg) ≤ (65535 : Int32) := hX.at1 2 i0 ((v3).toNatClampNeg)
              exact FU.step hF (by grind)
            have pf32 : (0 : Int32) ≤ (v3 + (1 : Int32)) ∧ (v3 + (1 : Int32)) ≤ (24 : Int32) := by
              have c33 : (0 : Int32) ≤ (X.1 1 i0 2) ∧ (X.1 1 i0 2) ≤ (24 : Int32) := hX.at1 1 i0 2
              have c34 : (0 : Int32) ≤ (X.1 2 i0 (v3).toNatClampNeg) ∧ (X.1 2 i0 (v3).toNatClampNeg) ≤ (65535 : Int32) := hX.at1 2 i0 ((v3).toNatClampNeg)
              exact ⟨by grind, by grind⟩
            have pf35 : (0 : Int32) ≤ v4 ∧ v4 ≤ (2147483647 : Int32) := by
              exact ⟨by grind, by grind⟩
            exact ih (v3 + (1 : Int32)) v4 k1 pf29 pf32 pf35 hk
          · have pf36 : (0 : Int32) ≤ (0 : Int32) ∧ (0 : Int32) ≤ (1 : Int32) := by
              exact ⟨by grind, by grind⟩
            exact ok_some pf36
theorem s_X3_isWhole {A : Nat → Nat → Nat → Prop} {B : SS} (X : SS) (hX : IV A B X) (i0 : Nat) : ok (f_X3_isWhole X i0) (fun r => (0 : Int32) ≤ r ∧ r ≤ (1 : Int32)) := by
  unfold f_X3_isWhole
  have pf1 : FU (0 : Int32) 24 1000 := by
    exact FU.start (by grind) (by decide)
  refine s_X3_isWhole_L4 X hX i0 1000 (0 : Int32) (0 : Int32) _ pf1 (show (0 : Int32) ≤ (0 : Int32) ∧ (0 : Int32) ≤ (24 : Int32) from ⟨by decide, by decide⟩) (show (0 : Int32) ≤ (0 : Int32) ∧ (0 : Int32) ≤ (2147483647 : Int32) from ⟨by decide, by decide⟩) (fun v2 wv2 => ?_)
  have wv2 : (0 : Int32) ≤ v2 ∧ v2 ≤ (2147483647 : Int32) := wv2
  refine ok_ite (fun q2 => ?_) (fun q2 => ?_)
  · have pf3 : (0 : Int32) ≤ (1 : Int32) ∧ (1 : Int32) ≤ (1 : Int32) := by
      exact ⟨by grind, by grind⟩
    exact ok_some pf3
  · have pf4 : (0 : Int32) ≤ (0 : Int32) ∧ (0 : Int32) ≤ (1 : Int32) := by
      exact ⟨by grind, by grind⟩
    exact ok_some pf4
theorem s_X3_sumOfAll_L6 {A : Nat → Nat → Nat → Prop} {B : SS} (X : SS) (hX : IV A B X) (i0 : Nat) : ∀ (n : Nat), ∀ (v4 : Int32) (v5 : Int64) (k2 : (Int64 → Option (Int64))), (FU v4 24 n) → ((0 : Int32) ≤ v4 ∧ v4 ≤ (24 : Int32)) → (∀ (k_0 : Int64), ok (k2 k_0) (fun r => True)) → ok (f_X3_sumOfAll_L6 X i0 n v4 v5 k2) (fun r => True) := by
  intro n
  induction n with
  | zero =>
    intro v4 v5 k2 hF iv4 hk
    exact (FU.stop hF (show v4 ≤ (24 : Int32) by grind)).elim
  | succ n ih =>
    intro v4 v5 k2 hF iv4 hk
    rw [f_X3_sumOfAll_L6]
    refine ok_ite (fun q1 => ?_) (fun q1 => ?_)
    · exact hk v5
    · refine ok_gd ?_ (fun g2 => ?_)
      · have c3 : (0 : Int32) ≤ (X.1 1 i0 2) ∧ (X.1 1 i0 2) ≤ (24 : Int32) := hX.at1 1 i0 2
        exact vp_of (by decide) (by grind) (show v4 < (24 : Int32) by grind)
      have g2 := vp_to (by decide) g2
      have g2 : (0 : Int32) ≤ v4 ∧ v4 < (24 : Int32) := g2
      refine ok_lq (fun v8 eq_4 => ?_)
      refine ok_gd ?_ (fun g5 => ?_)
      · have c6 : (0 : Int32) ≤ (X.1 1 i0 2) ∧ (X.1 1 i0 2) ≤ (24 : Int32) := hX.at1 1 i0 2
        exact vp_of (by decide) (by grind) (show v4 < (24 : Int32) by grind)
      have g5 := vp_to (by decide) g5
      have g5 : (0 : Int32) ≤ v4 ∧ v4 < (24 : Int32) := g5
      refine ok_lq (fun v10 eq_7 => ?_)
      have pf8 : FU (v4 + (1 : Int32)) 24 n := by
        have c9 : (0 : Int32) ≤ (X.1 1 i0 2) ∧ (X.1 1 i0 2) ≤ (24 : Int32) := hX.at1 1 i0 2
        exact FU.step hF (by grind)
      have pf10 : (0 : Int32) ≤ (v4 + (1 : Int32)) ∧ (v4 + (1 : Int32)) ≤ (24 : Int32) := by
        have c11 : (0 : Int32) ≤ (X.1 1 i0 2) ∧ (X.1 1 i0 2) ≤ (24 : Int32) := hX.at1 1 i0 2
        exact ⟨by grind, by grind⟩
      exact ih (v4 + (1 : Int32)) v10 k2 pf8 pf10 hk
theorem s_X3_sumOfAll {A : Nat → Nat → Nat → Prop} {B : SS} (X : SS) (hX : IV A B X) (i0 : Nat) : ok (f_X3_sumOfAll X i0) (fun r => True) := by
  unfold f_X3_sumOfAll
  refine ok_lq (fun v1 eq_1 => ?_)
  have pf2 : FU (0 : Int32) 24 1000 := by
    exact FU.start (by grind) (by decide)
  refine s_X3_sumOfAll_L6 X hX i0 1000 (0 : Int32) v1 _ pf2 (show (0 : Int32) ≤ (0 : Int32) ∧ (0 : Int32) ≤ (24 : Int32) from ⟨by decide, by decide⟩) (fun v3 => ?_)
  exact ok_some trivial
theorem s_X4_addInput {A : Nat → Nat → Nat → Prop} {B : SS} (X : SS) (hX : IV A B X) (i0 : Nat) (p0 : Int32) (a1 : A 4 i0 2) (a2 : ∀ p, A 5 i0 p) : ok (f_X4_addInput X i0 p0) (fun r => IV A B r.1 ∧ (0 : Int32) ≤ r.2 ∧ r.2 ≤ (4 : Int32)) := by
  unfold f_X4_addInput
  refine ok_ite (fun q1 => ?_) (fun q1 => ?_)
  · have pf2 : (0 : Int32) ≤ (X.1 4 i0 2) ∧ (X.1 4 i0 2) ≤ (4 : Int32) := by
      have c3 : (0 : Int32) ≤ (X.1 4 i0 2) ∧ (X.1 4 i0 2) ≤ (4 : Int32) := hX.at1 4 i0 2
      exact ⟨by grind, by grind⟩
    exact ok_some ⟨hX, pf2⟩
  · refine ok_gd ?_ (fun g4 => ?_)
    · have c5 : (0 : Int32) ≤ (X.1 4 i0 2) ∧ (X.1 4 i0 2) ≤ (4 : Int32) := hX.at1 4 i0 2
      exact vp_of (by decide) (by grind) (show (X.1 4 i0 2) < (4 : Int32) by grind)
    have g4 := vp_to (by decide) g4
    have g4 : (0 : Int32) ≤ (X.1 4 i0 2) ∧ (X.1 4 i0 2) < (4 : Int32) := g4
    refine ok_lq (fun X3 eq_6 => ?_)
    have hX3 : IV A B X3 := by rw [eq_6]; exact hX.w1f rfl (a2 (((X.1 4 i0 2)).toNatClampNeg)) rfl
    refine ok_lq (fun X4 eq_7 => ?_)
    have pf8 : (0 : Int32) ≤ ((X3.1 4 i0 2) + (1 : Int32)) ∧ ((X3.1 4 i0 2) + (1 : Int32)) ≤ (4 : Int32) := by
      have c9 : (0 : Int32) ≤ (X3.1 4 i0 2) ∧ (X3.1 4 i0 2) ≤ (4 : Int32) := hX3.at1 4 i0 2
      have c10 : (X3.1 4 i0 2) = (X.1 4 i0 2) := by rw [eq_6]; exact up_k (by decide)
      have c11 : (0 : Int32) ≤ (X.1 4 i0 2) ∧ (X.1 4 i0 2) ≤ (4 : Int32) := hX.at1 4 i0 2
      exact ⟨by grind, by grind⟩
    have hX4 : IV A B X4 := by rw [eq_7]; exact hX3.w1 rfl (a1) pf8
    have pf12 : (0 : Int32) ≤ (X4.1 4 i0 2) ∧ (X4.1 4 i0 2) ≤ (4 : Int32) := by
      have c13 : (0 : Int32) ≤ (X4.1 4 i0 2) ∧ (X4.1 4 i0 2) ≤ (4 : Int32) := hX4.at1 4 i0 2
      have c14 : (X4.1 4 i0 2) = ((X3.1 4 i0 2) + (1 : Int32)) := by rw [eq_7]; exact up_s
      have c15 : (0 : Int32) ≤ (X.1 4 i0 2) ∧ (X.1 4 i0 2) ≤ (4 : Int32) := hX.at1 4 i0 2
      have c16 : (0 : Int32) ≤ (X3.1 4 i0 2) ∧ (X3.1 4 i0 2) ≤ (4 : Int32) := hX3.at1 4 i0 2
      have c17 : (X3.1 4 i0 2) = (X.1 4 i0 2) := by rw [eq_6]; exact up_k (by decide)
      exact ⟨by grind, by grind⟩
    exact ok_some ⟨hX4, pf12⟩
theorem s_X4_addExpected {A : Nat → Nat → Nat → Prop} {B : SS} (X : SS) (hX : IV A B X) (i0 : Nat) (p0 : Int32) (a1 : A 4 i0 3) (a2 : ∀ p, A 6 i0 p) : ok (f_X4_addExpected X i0 p0) (fun r => IV A B r.1 ∧ (0 : Int32) ≤ r.2 ∧ r.2 ≤ (6 : Int32)) := by
  unfold f_X4_addExpected
  refine ok_ite (fun q1 => ?_) (fun q1 => ?_)
  · have pf2 : (0 : Int32) ≤ (X.1 4 i0 3) ∧ (X.1 4 i0 3) ≤ (6 : Int32) := by
      have c3 : (0 : Int32) ≤ (X.1 4 i0 3) ∧ (X.1 4 i0 3) ≤ (6 : Int32) := hX.at1 4 i0 3
      exact ⟨by grind, by grind⟩
    exact ok_some ⟨hX, pf2⟩
  · refine ok_gd ?_ (fun g4 => ?_)
    · have c5 : (0 : Int32) ≤ (X.1 4 i0 3) ∧ (X.1 4 i0 3) ≤ (6 : Int32) := hX.at1 4 i0 3
      exact vp_of (by decide) (by grind) (show (X.1 4 i0 3) < (6 : Int32) by grind)
    have g4 := vp_to (by decide) g4
    have g4 : (0 : Int32) ≤ (X.1 4 i0 3) ∧ (X.1 4 i0 3) < (6 : Int32) := g4
    refine ok_lq (fun X3 eq_6 => ?_)
    have hX3 : IV A B X3 := by rw [eq_6]; exact hX.w1f rfl (a2 (((X.1 4 i0 3)).toNatClampNeg)) rfl
    refine ok_lq (fun X4 eq_7 => ?_)
    have pf8 : (0 : Int32) ≤ ((X3.1 4 i0 3) + (1 : Int32)) ∧ ((X3.1 4 i0 3) + (1 : Int32)) ≤ (6 : Int32) := by
      have c9 : (0 : Int32) ≤ (X3.1 4 i0 3) ∧ (X3.1 4 i0 3) ≤ (6 : Int32) := hX3.at1 4 i0 3
      have c10 : (X3.1 4 i0 3) = (X.1 4 i0 3) := by rw [eq_6]; exact up_k (by decide)
      have c11 : (0 : Int32) ≤ (X.1 4 i0 3) ∧ (X.1 4 i0 3) ≤ (6 : Int32) := hX.at1 4 i0 3
      exact ⟨by grind, by grind⟩
    have hX4 : IV A B X4 := by rw [eq_7]; exact hX3.w1 rfl (a1) pf8
    have pf12 : (0 : Int32) ≤ (X4.1 4 i0 3) ∧ (X4.1 4 i0 3) ≤ (6 : Int32) := by
      have c13 : (0 : Int32) ≤ (X4.1 4 i0 3) ∧ (X4.1 4 i0 3) ≤ (6 : Int32) := hX4.at1 4 i0 3
      have c14 : (X4.1 4 i0 3) = ((X3.1 4 i0 3) + (1 : Int32)) := by rw [eq_7]; exact up_s
      have c15 : (0 : Int32) ≤ (X.1 4 i0 3) ∧ (X.1 4 i0 3) ≤ (6 : Int32) := hX.at1 4 i0 3
      have c16 : (0 : Int32) ≤ (X3.1 4 i0 3) ∧ (X3.1 4 i0 3) ≤ (6 : Int32) := hX3.at1 4 i0 3
      have c17 : (X3.1 4 i0 3) = (X.1 4 i0 3) := by rw [eq_6]; exact up_k (by decide)
      exact ⟨by grind, by grind⟩
    exact ok_some ⟨hX4, pf12⟩
theorem s_X4_erase {A : Nat → Nat → Nat → Prop} {B : SS} (X : SS) (hX : IV A B X) (i0 : Nat) (a1 : A 4 i0 2) (a2 : A 4 i0 3) : ok (f_X4_erase X i0) (fun r => IV A B r.1 ∧ ((r.1.1 4 i0 2) = (0 : Int32) ∧ (r.1.1 4 i0 3) = (0 : Int32))) := by
  unfold f_X4_erase
  refine ok_lq (fun X1 eq_1 => ?_)
  have hX1 : IV A B X1 := by rw [eq_1]; exact hX.w1 rfl (a1) (show (0 : Int32) ≤ (0 : Int32) ∧ (0 : Int32) ≤ (4 : Int32) from ⟨by decide, by decide⟩)
  refine ok_lq (fun X2 eq_2 => ?_)
  have hX2 : IV A B X2 := by rw [eq_2]; exact hX1.w1 rfl (a2) (show (0 : Int32) ≤ (0 : Int32) ∧ (0 : Int32) ≤ (6 : Int32) from ⟨by decide, by decide⟩)
  have pf3 : ((X2.1 4 i0 2) = (0 : Int32) ∧ (X2.1 4 i0 3) = (0 : Int32)) := by
    have c4 : (0 : Int32) ≤ (X2.1 4 i0 2) ∧ (X2.1 4 i0 2) ≤ (4 : Int32) := hX2.at1 4 i0 2
    have c5 : (X2.1 4 i0 2) = (X1.1 4 i0 2) := by rw [eq_2]; exact up_p (by decide)
    have c6 : (0 : Int32) ≤ (X2.1 4 i0 3) ∧ (X2.1 4 i0 3) ≤ (6 : Int32) := hX2.at1 4 i0 3
    have c7 : (X2.1 4 i0 3) = (0 : Int32) := by rw [eq_2]; exact up_s
    have c8 : (0 : Int32) ≤ (X1.1 4 i0 2) ∧ (X1.1 4 i0 2) ≤ (4 : Int32) := hX1.at1 4 i0 2
    have c9 : (X1.1 4 i0 2) = (0 : Int32) := by rw [eq_1]; exact up_s
    grind
  exact ok_some ⟨hX2, pf3⟩
theorem s_X4_take_L46 {A : Nat → Nat → Nat → Prop} {B : SS} (i0 : Nat) (i1 : Nat) (a1 : ∀ p, A 6 i0 p) : ∀ (n : Nat), ∀ (v9 : Int32) (X10 : SS) (k7 : (SS → Option (SS × Unit))), (FU v9 6 n) → ((0 : Int32) ≤ v9 ∧ v9 ≤ (6 : Int32)) → (IV A B X10) → (∀ (k_0 : SS), (IV A B k_0) → ok (k7 k_0) (fun r => IV A B r.1 ∧ True)) → ok (f_X4_take_L46 i0 i1 n v9 X10 k7) (fun r => IV A B r.1 ∧ True) := by
  intro n
  induction n with
  | zero =>
    intro v9 X10 k7 hF iv9 hX10 hk
    exact (FU.stop hF (show v9 ≤ (6 : Int32) by grind)).elim
  | succ n ih =>
    intro v9 X10 k7 hF iv9 hX10 hk
    rw [f_X4_take_L46]
    refine ok_ite (fun q1 => ?_) (fun q1 => ?_)
    · exact hk X10 hX10
    · refine ok_gd ?_ (fun g2 => ?_)
      · have c3 : (0 : Int32) ≤ (X10.1 4 i0 3) ∧ (X10.1 4 i0 3) ≤ (6 : Int32) := hX10.at1 4 i0 3
        exact vp_of (by decide) (by grind) (show v9 < (6 : Int32) by grind)
      have g2 := vp_to (by decide) g2
      have g2 : (0 : Int32) ≤ v9 ∧ v9 < (6 : Int32) := g2
      refine ok_gd ?_ (fun g4 => ?_)
      · have c5 : (0 : Int32) ≤ (X10.1 4 i0 3) ∧ (X10.1 4 i0 3) ≤ (6 : Int32) := hX10.at1 4 i0 3
        exact vp_of (by decide) (by grind) (show v9 < (6 : Int32) by grind)
      have g4 := vp_to (by decide) g4
      have g4 : (0 : Int32) ≤ v9 ∧ v9 < (6 : Int32) := g4
      refine ok_lq (fun X14 eq_6 => ?_)
      have hX14 : IV A B X14 := by rw [eq_6]; exact hX10.w1f rfl (a1 ((v9).toNatClampNeg)) rfl
      have pf7 : FU (v9 + (1 : Int32)) 6 n := by
        have c8 : (0 : Int32) ≤ (X10.1 4 i0 3) ∧ (X10.1 4 i0 3) ≤ (6 : Int32) := hX10.at1 4 i0 3
        exact FU.step hF (by grind)
      have pf9 : (0 : Int32) ≤ (v9 + (1 : Int32)) ∧ (v9 + (1 : Int32)) ≤ (6 : Int32) := by
        have c10 : (0 : Int32) ≤ (X10.1 4 i0 3) ∧ (X10.1 4 i0 3) ≤ (6 : Int32) := hX10.at1 4 i0 3
        exact ⟨by grind, by grind⟩
      exact ih (v9 + (1 : Int32)) X14 k7 pf7 pf9 hX14 hk
theorem s_X4_take_L18 {A : Nat → Nat → Nat → Prop} {B : SS} (i0 : Nat) (i1 : Nat) (a1 : ∀ p, A 5 i0 p) : ∀ (n : Nat), ∀ (v5 : Int32) (X6 : SS) (k3 : (SS → Option (SS × Unit))), (FU v5 4 n) → ((0 : Int32) ≤ v5 ∧ v5 ≤ (4 : Int32)) → (IV A B X6) → (∀ (k_0 : SS), (IV A B k_0) → ok (k3 k_0) (fun r => IV A B r.1 ∧ True)) → ok (f_X4_take_L18 i0 i1 n v5 X6 k3) (fun r => IV A B r.1 ∧ True) := by
  intro n
  induction n with
  | zero =>
    intro v5 X6 k3 hF iv5 hX6 hk
    exact (FU.stop hF (show v5 ≤ (4 : Int32) by grind)).elim
  | succ n ih =>
    intro v5 X6 k3 hF iv5 hX6 hk
    rw [f_X4_take_L18]
    refine ok_ite (fun q1 => ?_) (fun q1 => ?_)
    · exact hk X6 hX6
    · refine ok_gd ?_ (fun g2 => ?_)
      · have c3 : (0 : Int32) ≤ (X6.1 4 i0 2) ∧ (X6.1 4 i0 2) ≤ (4 : Int32) := hX6.at1 4 i0 2
        exact vp_of (by decide) (by grind) (show v5 < (4 : Int32) by grind)
      have g2 := vp_to (by decide) g2
      have g2 : (0 : Int32) ≤ v5 ∧ v5 < (4 : Int32) := g2
      refine ok_gd ?_ (fun g4 => ?_)
      · have c5 : (0 : Int32) ≤ (X6.1 4 i0 2) ∧ (X6.1 4 i0 2) ≤ (4 : Int32) := hX6.at1 4 i0 2
        exact vp_of (by decide) (by grind) (show v5 < (4 : Int32) by grind)
      have g4 := vp_to (by decide) g4
      have g4 : (0 : Int32) ≤ v5 ∧ v5 < (4 : Int32) := g4
      refine ok_lq (fun X18 eq_6 => ?_)
      have hX18 : IV A B X18 := by rw [eq_6]; exact hX6.w1f rfl (a1 ((v5).toNatClampNeg)) rfl
      have pf7 : FU (v5 + (1 : Int32)) 4 n := by
        have c8 : (0 : Int32) ≤ (X6.1 4 i0 2) ∧ (X6.1 4 i0 2) ≤ (4 : Int32) := hX6.at1 4 i0 2
        exact FU.step hF (by grind)
      have pf9 : (0 : Int32) ≤ (v5 + (1 : Int32)) ∧ (v5 + (1 : Int32)) ≤ (4 : Int32) := by
        have c10 : (0 : Int32) ≤ (X6.1 4 i0 2) ∧ (X6.1 4 i0 2) ≤ (4 : Int32) := hX6.at1 4 i0 2
        exact ⟨by grind, by grind⟩
      exact ih (v5 + (1 : Int32)) X18 k3 pf7 pf9 hX18 hk
theorem s_X4_take {A : Nat → Nat → Nat → Prop} {B : SS} (X : SS) (hX : IV A B X) (i0 : Nat) (i1 : Nat) (a1 : A 4 i0 2) (a2 : A 4 i0 3) (a3 : ∀ p, A 5 i0 p) (a4 : ∀ p, A 6 i0 p) : ok (f_X4_take X i0 i1) (fun r => IV A B r.1 ∧ True) := by
  unfold f_X4_take
  refine ok_lq (fun X1 eq_1 => ?_)
  have pf2 : (0 : Int32) ≤ (X.1 4 i1 2) ∧ (X.1 4 i1 2) ≤ (4 : Int32) := by
    have c3 : (0 : Int32) ≤ (X.1 4 i1 2) ∧ (X.1 4 i1 2) ≤ (4 : Int32) := hX.at1 4 i1 2
    exact ⟨by grind, by grind⟩
  have hX1 : IV A B X1 := by rw [eq_1]; exact hX.w1 rfl (a1) pf2
  refine ok_lq (fun X2 eq_4 => ?_)
  have pf5 : (0 : Int32) ≤ (X1.1 4 i1 3) ∧ (X1.1 4 i1 3) ≤ (6 : Int32) := by
    have c6 : (0 : Int32) ≤ (X1.1 4 i1 3) ∧ (X1.1 4 i1 3) ≤ (6 : Int32) := hX1.at1 4 i1 3
    have c7 : (X1.1 4 i1 3) = (X.1 4 i1 3) := by rw [eq_1]; exact up_p (by decide)
    have c8 : (0 : Int32) ≤ (X.1 4 i1 3) ∧ (X.1 4 i1 3) ≤ (6 : Int32) := hX.at1 4 i1 3
    exact ⟨by grind, by grind⟩
  have hX2 : IV A B X2 := by rw [eq_4]; exact hX1.w1 rfl (a2) pf5
  have pf9 : FU (0 : Int32) 4 1000 := by
    exact FU.start (by grind) (by decide)
  refine s_X4_take_L18 i0 i1 (fun p => a3 p) 1000 (0 : Int32) X2 _ pf9 (show (0 : Int32) ≤ (0 : Int32) ∧ (0 : Int32) ≤ (4 : Int32) from ⟨by decide, by decide⟩) hX2 (fun X4 hX4 => ?_)
  have pf10 : FU (0 : Int32) 6 1000 := by
    exact FU.start (by grind) (by decide)
  refine s_X4_take_L46 i0 i1 (fun p => a4 p) 1000 (0 : Int32) X4 _ pf10 (show (0 : Int32) ≤ (0 : Int32) ∧ (0 : Int32) ≤ (6 : Int32) from ⟨by decide, by decide⟩) hX4 (fun X8 hX8 => ?_)
  exact ok_some ⟨hX8, trivial⟩
theorem s_X5_regain {A : Nat → Nat → Nat → Prop} {B : SS} (X : SS) (hX : IV A B X) (i0 : Nat) (i1 : Nat) (a1 : ∀ j, 1 ≤ j → A 1 j 2) (a2 : A 12 i0 12) (a3 : ∀ j p, 1 ≤ j → A 2 j p) (a4 : ∀ j p, 1 ≤ j → A 3 j p) : ok (f_X5_regain X i0 i1) (fun r => IV A B r.1 ∧ True) := by
  unfold f_X5_regain
  refine ok_b1 (s_X3_take X hX (i0 + 1) i1 (a1 (i0 + 1) (by omega)) (fun p => a3 (i0 + 1) p (by omega)) (fun p => a4 (i0 + 1) p (by omega))) (fun X2 v1 w1 => ?_)
  have hX2 : IV A B X2 := w1.1
  refine ok_lq (fun X4 eq_2 => ?_)
  have hX4 : IV A B X4 := by rw [eq_2]; exact hX2.w1 rfl (a2) (show (0 : Int32) ≤ (1 : Int32) ∧ (1 : Int32) ≤ (1 : Int32) from ⟨by decide, by decide⟩)
  exact ok_some ⟨hX4, trivial⟩
theorem s_X5_begin {A : Nat → Nat → Nat → Prop} {B : SS} (X : SS) (hX : IV A B X) (i0 : Nat) (p0 : Int32) (ip0 : (0 : Int32) ≤ p0 ∧ p0 ≤ (9 : Int32)) (p1 : Int32) (ip1 : (0 : Int32) ≤ p1 ∧ p1 ≤ (7 : Int32)) (i3 : Nat) (a1 : ∀ j, 1 ≤ j → A 1 j 2) (a2 : A 112 i0 10) (a3 : A 12 i0 11) (a4 : A 12 i0 12) (a5 : A 12 i0 7) (a6 : A 12 i0 8) (a7 : A 12 i0 9) (a8 : ∀ j p, 1 ≤ j → A 2 j p) (a9 : ∀ j p, 1 ≤ j → A 3 j p) : ok (f_X5_begin X i0 p0 p1 i3) (fun r => IV A B r.1 ∧ True) := by
  unfold f_X5_begin
  refine ok_lq (fun X1 eq_1 => ?_)
  have pf2 : (0 : Int32) ≤ p0 ∧ p0 ≤ (9 : Int32) := by
    exact ⟨by grind, by grind⟩
  have hX1 : IV A B X1 := by rw [eq_1]; exact hX.w1 rfl (a5) pf2
  refine ok_lq (fun X2 eq_3 => ?_)
  have pf4 : (0 : Int32) ≤ p1 ∧ p1 ≤ (7 : Int32) := by
    exact ⟨by grind, by grind⟩
  have hX2 : IV A B X2 := by rw [eq_3]; exact hX1.w1 rfl (a6) pf4
  refine ok_lq (fun X3 eq_5 => ?_)
  have hX3 : IV A B X3 := by rw [eq_5]; exact hX2.w1f rfl (a7) rfl
  refine ok_b0 (s_X3_sumOfAll X3 hX3 i3) (fun v4 w6 => ?_)
  refine ok_lq (fun X6 eq_7 => ?_)
  have hX6 : IV A B X6 := by rw [eq_7]; exact hX3.w2 (a2)
  refine ok_lq (fun X7 eq_8 => ?_)
  have hX7 : IV A B X7 := by rw [eq_8]; exact hX6.w1 rfl (a3) (show (0 : Int32) ≤ (115 : Int32) ∧ (115 : Int32) ≤ (65535 : Int32) from ⟨by decide, by decide⟩)
  refine ok_b1 (s_X5_regain X7 hX7 i0 i3 a1 (a4) a8 a9) (fun X9 v8 w9 => ?_)
  have hX9 : IV A B X9 := w9.1
  exact ok_some ⟨hX9, trivial⟩
theorem s_X5_isCounted {A : Nat → Nat → Nat → Prop} {B : SS} (X : SS) (hX : IV A B X) (i0 : Nat) : ok (f_X5_isCounted X i0) (fun r => (0 : Int32) ≤ r ∧ r ≤ (1 : Int32)) := by
  unfold f_X5_isCounted
  refine ok_ite (fun q1 => ?_) (fun q1 => ?_)
  · have pf2 : (0 : Int32) ≤ (1 : Int32) ∧ (1 : Int32) ≤ (1 : Int32) := by
      exact ⟨by grind, by grind⟩
    exact ok_some pf2
  · refine ok_ite (fun q3 => ?_) (fun q3 => ?_)
    · have pf4 : (0 : Int32) ≤ (1 : Int32) ∧ (1 : Int32) ≤ (1 : Int32) := by
        exact ⟨by grind, by grind⟩
      exact ok_some pf4
    · refine ok_ite (fun q5 => ?_) (fun q5 => ?_)
      · have pf6 : (0 : Int32) ≤ (1 : Int32) ∧ (1 : Int32) ≤ (1 : Int32) := by
          exact ⟨by grind, by grind⟩
        exact ok_some pf6
      · have pf7 : (0 : Int32) ≤ (0 : Int32) ∧ (0 : Int32) ≤ (1 : Int32) := by
          exact ⟨by grind, by grind⟩
        exact ok_some pf7
theorem s_X5_takeVote {A : Nat → Nat → Nat → Prop} {B : SS} (X : SS) (hX : IV A B X) (i0 : Nat) (p0 : Int32) (ip0 : (0 : Int32) ≤ p0 ∧ p0 ≤ (9 : Int32)) (p1 : Int32) (ip1 : (1 : Int32) ≤ p1 ∧ p1 ≤ (5 : Int32)) (p2 : Int32) (ip2 : (1 : Int32) ≤ p2 ∧ p2 ≤ (6 : Int32)) (a1 : A 12 i0 4) (a2 : A 12 i0 5) (a3 : A 12 i0 6) (a4 : ∀ p, A 14 i0 p) (a5 : ∀ p, A 15 i0 p) : ok (f_X5_takeVote X i0 p0 p1 p2) (fun r => IV A B r.1 ∧ True) := by
  unfold f_X5_takeVote
  refine ok_gd ?_ (fun g1 => ?_)
  · exact vp_of (by decide) (by grind) (show p0 < (10 : Int32) by grind)
  have g1 := vp_to (by decide) g1
  have g1 : (0 : Int32) ≤ p0 ∧ p0 < (10 : Int32) := g1
  refine ok_ite (fun q2 => ?_) (fun q2 => ?_)
  · unfold f_X5_takeVote_J19
    refine ok_lq (fun X4 eq_3 => ?_)
    have hX4 : IV A B X4 := by rw [eq_3]; exact hX.w1f rfl (a1) rfl
    refine ok_gd ?_ (fun g4 => ?_)
    · exact vp_of (by decide) (by grind) (show p0 < (10 : Int32) by grind)
    have g4 := vp_to (by decide) g4
    have g4 : (0 : Int32) ≤ p0 ∧ p0 < (10 : Int32) := g4
    refine ok_lq (fun X6 eq_5 => ?_)
    have hX6 : IV A B X6 := by rw [eq_5]; exact hX4.w1f rfl (a2) rfl
    refine ok_gd ?_ (fun g6 => ?_)
    · exact vp_of (by decide) (by grind) (show p0 < (10 : Int32) by grind)
    have g6 := vp_to (by decide) g6
    have g6 : (0 : Int32) ≤ p0 ∧ p0 < (10 : Int32) := g6
    refine ok_gd ?_ (fun g7 => ?_)
    · exact vp_of (by decide) (by grind) (show p0 < (10 : Int32) by grind)
    have g7 := vp_to (by decide) g7
    have g7 : (0 : Int32) ≤ p0 ∧ p0 < (10 : Int32) := g7
    refine ok_lq (fun X9 eq_8 => ?_)
    have hX9 : IV A B X9 := by rw [eq_8]; exact hX6.w1f rfl (a3) rfl
    refine ok_gd ?_ (fun g9 => ?_)
    · exact vp_of (by decide) (by grind) (show p0 < (10 : Int32) by grind)
    have g9 := vp_to (by decide) g9
    have g9 : (0 : Int32) ≤ p0 ∧ p0 < (10 : Int32) := g9
    refine ok_lq (fun X11 eq_10 => ?_)
    have hX11 : IV A B X11 := by rw [eq_10]; exact hX9.w1f rfl (a4 ((p0).toNatClampNeg)) rfl
    refine ok_gd ?_ (fun g11 => ?_)
    · exact vp_of (by decide) (by grind) (show p0 < (10 : Int32) by grind)
    have g11 := vp_to (by decide) g11
    have g11 : (0 : Int32) ≤ p0 ∧ p0 < (10 : Int32) := g11
    refine ok_lq (fun X13 eq_12 => ?_)
    have hX13 : IV A B X13 := by rw [eq_12]; exact hX11.w1f rfl (a5 ((p0).toNatClampNeg)) rfl
    exact ok_some ⟨hX13, trivial⟩
  · unfold f_X5_takeVote_J19
    refine ok_lq (fun X4 eq_13 => ?_)
    have hX4 : IV A B X4 := by rw [eq_13]; exact hX.w1f rfl (a1) rfl
    refine ok_gd ?_ (fun g14 => ?_)
    · exact vp_of (by decide) (by grind) (show p0 < (10 : Int32) by grind)
    have g14 := vp_to (by decide) g14
    have g14 : (0 : Int32) ≤ p0 ∧ p0 < (10 : Int32) := g14
    refine ok_lq (fun X6 eq_15 => ?_)
    have hX6 : IV A B X6 := by rw [eq_15]; exact hX4.w1f rfl (a2) rfl
    refine ok_gd ?_ (fun g16 => ?_)
    · exact vp_of (by decide) (by grind) (show p0 < (10 : Int32) by grind)
    have g16 := vp_to (by decide) g16
    have g16 : (0 : Int32) ≤ p0 ∧ p0 < (10 : Int32) := g16
    refine ok_gd ?_ (fun g17 => ?_)
    · exact vp_of (by decide) (by grind) (show p0 < (10 : Int32) by grind)
    have g17 := vp_to (by decide) g17
    have g17 : (0 : Int32) ≤ p0 ∧ p0 < (10 : Int32) := g17
    refine ok_lq (fun X9 eq_18 => ?_)
    have hX9 : IV A B X9 := by rw [eq_18]; exact hX6.w1f rfl (a3) rfl
    refine ok_gd ?_ (fun g19 => ?_)
    · exact vp_of (by decide) (by grind) (show p0 < (10 : Int32) by grind)
    have g19 := vp_to (by decide) g19
    have g19 : (0 : Int32) ≤ p0 ∧ p0 < (10 : Int32) := g19
    refine ok_lq (fun X11 eq_20 => ?_)
    have hX11 : IV A B X11 := by rw [eq_20]; exact hX9.w1f rfl (a4 ((p0).toNatClampNeg)) rfl
    refine ok_gd ?_ (fun g21 => ?_)
    · exact vp_of (by decide) (by grind) (show p0 < (10 : Int32) by grind)
    have g21 := vp_to (by decide) g21
    have g21 : (0 : Int32) ≤ p0 ∧ p0 < (10 : Int32) := g21
    refine ok_lq (fun X13 eq_22 => ?_)
    have hX13 : IV A B X13 := by rw [eq_22]; exact hX11.w1f rfl (a5 ((p0).toNatClampNeg)) rfl
    exact ok_some ⟨hX13, trivial⟩
theorem s_X5_areSumsOfVotes_L7 {A : Nat → Nat → Nat → Prop} {B : SS} (X : SS) (hX : IV A B X) (i0 : Nat) : ∀ (n : Nat), ∀ (v4 : Int32) (v5 : Int32) (v6 : Int32) (k1 : (Int32 → Int32 → Option (Int32))), (FD v4 n) → (((-1) : Int32) ≤ v4 ∧ v4 ≤ (9 : Int32)) → (∀ (k_0 : Int32) (k_1 : Int32), ok (k1 k_0 k_1) (fun r => (0 : Int32) ≤ r ∧ r ≤ (1 : Int32))) → ok (f_X5_areSumsOfVotes_L7 X i0 n v4 v5 v6 k1) (fun r => (0 : Int32) ≤ r ∧ r ≤ (1 : Int32)) := by
  intro n
  induction n with
  | zero =>
    intro v4 v5 v6 k1 hF iv4 hk
    exact (FD.stop hF (by grind)).elim
  | succ n ih =>
    intro v4 v5 v6 k1 hF iv4 hk
    rw [f_X5_areSumsOfVotes_L7]
    refine ok_ite (fun q1 => ?_) (fun q1 => ?_)
    · exact hk v5 v6
    · refine ok_gd ?_ (fun g2 => ?_)
      · exact vp_of (by decide) (by grind) (show v4 < (10 : Int32) by grind)
      have g2 := vp_to (by decide) g2
      have g2 : (0 : Int32) ≤ v4 ∧ v4 < (10 : Int32) := g2
      refine ok_lq (fun v11 eq_3 => ?_)
      refine ok_gd ?_ (fun g4 => ?_)
      · exact vp_of (by decide) (by grind) (show v4 < (10 : Int32) by grind)
      have g4 := vp_to (by decide) g4
      have g4 : (0 : Int32) ≤ v4 ∧ v4 < (10 : Int32) := g4
      refine ok_gd ?_ (fun g5 => ?_)
      · exact vp_of (by decide) (by grind) (show v4 < (10 : Int32) by grind)
      have g5 := vp_to (by decide) g5
      have g5 : (0 : Int32) ≤ v4 ∧ v4 < (10 : Int32) := g5
      refine ok_lq (fun v14 eq_6 => ?_)
      have pf7 : FD (v4 + ((-1) : Int32)) n := by
        exact FD.step hF (by grind)
      have pf8 : ((-1) : Int32) ≤ (v4 + ((-1) : Int32)) ∧ (v4 + ((-1) : Int32)) ≤ (9 : Int32) := by
        exact ⟨by grind, by grind⟩
      exact ih (v4 + ((-1) : Int32)) v14 v11 k1 pf7 pf8 hk
theorem s_X5_areSumsOfVotes {A : Nat → Nat → Nat → Prop} {B : SS} (X : SS) (hX : IV A B X) (i0 : Nat) : ok (f_X5_areSumsOfVotes X i0) (fun r => (0 : Int32) ≤ r ∧ r ≤ (1 : Int32)) := by
  unfold f_X5_areSumsOfVotes
  have pf1 : FD (9 : Int32) 1000 := by
    exact FD.start (show (9 : Int32) ≤ (900 : Int32) by grind)
  refine s_X5_areSumsOfVotes_L7 X hX i0 1000 (9 : Int32) (0 : Int32) (0 : Int32) _ pf1 (show ((-1) : Int32) ≤ (9 : Int32) ∧ (9 : Int32) ≤ (9 : Int32) from ⟨by decide, by decide⟩) (fun v2 v3 => ?_)
  refine ok_ite (fun q2 => ?_) (fun q2 => ?_)
  · refine ok_ite (fun q3 => ?_) (fun q3 => ?_)
    · have pf4 : (0 : Int32) ≤ (1 : Int32) ∧ (1 : Int32) ≤ (1 : Int32) := by
        exact ⟨by grind, by grind⟩
      exact ok_some pf4
    · have pf5 : (0 : Int32) ≤ (0 : Int32) ∧ (0 : Int32) ≤ (1 : Int32) := by
        exact ⟨by grind, by grind⟩
      exact ok_some pf5
  · have pf6 : (0 : Int32) ≤ (0 : Int32) ∧ (0 : Int32) ≤ (1 : Int32) := by
      exact ⟨by grind, by grind⟩
    exact ok_some pf6
theorem s_X5_styleAbove {A : Nat → Nat → Nat → Prop} {B : SS} (X : SS) (hX : IV A B X) (i0 : Nat) : ok (f_X5_styleAbove X i0) (fun r => True) := by
  unfold f_X5_styleAbove
  refine ok_ite (fun q1 => ?_) (fun q1 => ?_)
  · exact ok_some trivial
  · exact ok_some trivial
theorem s_X5_styleUnder {A : Nat → Nat → Nat → Prop} {B : SS} (X : SS) (hX : IV A B X) (i0 : Nat) : ok (f_X5_styleUnder X i0) (fun r => True) := by
  unfold f_X5_styleUnder
  refine ok_ite (fun q1 => ?_) (fun q1 => ?_)
  · exact ok_some trivial
  · exact ok_some trivial
theorem s_X5_hasGreaterStyleThan {A : Nat → Nat → Nat → Prop} {B : SS} (X : SS) (hX : IV A B X) (i0 : Nat) (i1 : Nat) : ok (f_X5_hasGreaterStyleThan X i0 i1) (fun r => (0 : Int32) ≤ r ∧ r ≤ (1 : Int32)) := by
  unfold f_X5_hasGreaterStyleThan
  refine ok_b0 (s_X5_styleAbove X hX i0) (fun v1 w1 => ?_)
  refine ok_b0 (s_X5_styleUnder X hX i1) (fun v3 w2 => ?_)
  refine ok_b0 (s_X5_styleAbove X hX i1) (fun v5 w3 => ?_)
  refine ok_b0 (s_X5_styleUnder X hX i0) (fun v7 w4 => ?_)
  refine ok_ite (fun q5 => ?_) (fun q5 => ?_)
  · have pf6 : (0 : Int32) ≤ (0 : Int32) ∧ (0 : Int32) ≤ (1 : Int32) := by
      exact ⟨by grind, by grind⟩
    exact ok_some pf6
  · have pf7 : (0 : Int32) ≤ (1 : Int32) ∧ (1 : Int32) ≤ (1 : Int32) := by
      exact ⟨by grind, by grind⟩
    exact ok_some pf7
theorem s_X6_isOutOfRange (p0 : Int32) : ok (f_X6_isOutOfRange p0) (fun r => (0 : Int32) ≤ r ∧ r ≤ (1 : Int32)) := by
  unfold f_X6_isOutOfRange
  refine ok_ite (fun q1 => ?_) (fun q1 => ?_)
  · have pf2 : (0 : Int32) ≤ (1 : Int32) ∧ (1 : Int32) ≤ (1 : Int32) := by
      exact ⟨by grind, by grind⟩
    exact ok_some pf2
  · refine ok_ite (fun q3 => ?_) (fun q3 => ?_)
    · have pf4 : (0 : Int32) ≤ (0 : Int32) ∧ (0 : Int32) ≤ (1 : Int32) := by
        exact ⟨by grind, by grind⟩
      exact ok_some pf4
    · have pf5 : (0 : Int32) ≤ (1 : Int32) ∧ (1 : Int32) ≤ (1 : Int32) := by
        exact ⟨by grind, by grind⟩
      exact ok_some pf5
theorem s_X6_step {A : Nat → Nat → Nat → Prop} {B : SS} (X : SS) (hX : IV A B X) (p0 : Int32) (p1 : Int32) (a1 : A 1 0 2) (a2 : ∀ p, A 2 0 p) (a3 : ∀ p, A 3 0 p) : ok (f_X6_step X p0 p1) (fun r => IV A B r.1 ∧ se (fun v => (0 : Int32) ≤ v ∧ v ≤ (24 : Int32)) (fun E => E = "java/lang/IllegalArgumentException" ∨ E = "java/lang/IllegalStateException") r.2) := by
  unfold f_X6_step
  refine ok_ite (fun q1 => ?_) (fun q1 => ?_)
  · refine ok_ite (fun q2 => ?_) (fun q2 => ?_)
    · unfold f_X6_step_J30
      refine ok_ite (fun q3 => ?_) (fun q3 => ?_)
      · unfold f_X6_step_J52
        refine ok_ite (fun q4 => ?_) (fun q4 => ?_)
        · refine ok_ite (fun q5 => ?_) (fun q5 => ?_)
          · refine ok_b1 (s_X3_append X hX 0 p0 (0 : Int32) (a1) (fun p => a2 p) (fun p => a3 p)) (fun X8 v7 w6 => ?_)
            have hX8 : IV A B X8 := w6.1
            have pf7 : (0 : Int32) ≤ (X8.1 1 0 2) ∧ (X8.1 1 0 2) ≤ (24 : Int32) := by
              have c8 : (0 : Int32) ≤ (X8.1 1 0 2) ∧ (X8.1 1 0 2) ≤ (24 : Int32) := hX8.at1 1 0 2
              exact ⟨by grind, by grind⟩
            exact ok_some ⟨hX8, pf7⟩
          · refine ok_b1 (s_X3_append X hX 0 p0 p1 (a1) (fun p => a2 p) (fun p => a3 p)) (fun X11 v10 w9 => ?_)
            have hX11 : IV A B X11 := w9.1
            have pf10 : (0 : Int32) ≤ (X11.1 1 0 2) ∧ (X11.1 1 0 2) ≤ (24 : Int32) := by
              have c11 : (0 : Int32) ≤ (X11.1 1 0 2) ∧ (X11.1 1 0 2) ≤ (24 : Int32) := hX11.at1 1 0 2
              exact ⟨by grind, by grind⟩
            exact ok_some ⟨hX11, pf10⟩
        · have pf12 : "java/lang/IllegalStateException" = "java/lang/IllegalArgumentException" ∨ "java/lang/IllegalStateException" = "java/lang/IllegalStateException" := by simp
          exact ok_some ⟨hX, pf12⟩
      · refine ok_b0 (s_X6_isOutOfRange p1) (fun v14 w13 => ?_)
        have w14 : (0 : Int32) ≤ v14 ∧ v14 ≤ (1 : Int32) := w13
        refine ok_ite (fun q15 => ?_) (fun q15 => ?_)
        · unfold f_X6_step_J52
          refine ok_ite (fun q16 => ?_) (fun q16 => ?_)
          · refine ok_ite (fun q17 => ?_) (fun q17 => ?_)
            · refine ok_b1 (s_X3_append X hX 0 p0 (0 : Int32) (a1) (fun p => a2 p) (fun p => a3 p)) (fun X8 v7 w18 => ?_)
              have hX8 : IV A B X8 := w18.1
              have pf19 : (0 : Int32) ≤ (X8.1 1 0 2) ∧ (X8.1 1 0 2) ≤ (24 : Int32) := by
                have c20 : (0 : Int32) ≤ (X8.1 1 0 2) ∧ (X8.1 1 0 2) ≤ (24 : Int32) := hX8.at1 1 0 2
                exact ⟨by grind, by grind⟩
              exact ok_some ⟨hX8, pf19⟩
            · refine ok_b1 (s_X3_append X hX 0 p0 p1 (a1) (fun p => a2 p) (fun p => a3 p)) (fun X11 v10 w21 => ?_)
              have hX11 : IV A B X11 := w21.1
              have pf22 : (0 : Int32) ≤ (X11.1 1 0 2) ∧ (X11.1 1 0 2) ≤ (24 : Int32) := by
                have c23 : (0 : Int32) ≤ (X11.1 1 0 2) ∧ (X11.1 1 0 2) ≤ (24 : Int32) := hX11.at1 1 0 2
                exact ⟨by grind, by grind⟩
              exact ok_some ⟨hX11, pf22⟩
          · have pf24 : "java/lang/IllegalStateException" = "java/lang/IllegalArgumentException" ∨ "java/lang/IllegalStateException" = "java/lang/IllegalStateException" := by simp
            exact ok_some ⟨hX, pf24⟩
        · have pf25 : "java/lang/IllegalArgumentException" = "java/lang/IllegalArgumentException" ∨ "java/lang/IllegalArgumentException" = "java/lang/IllegalStateException" := by simp
          exact ok_some ⟨hX, pf25⟩
    · unfold f_X6_step_J30
      refine ok_ite (fun q26 => ?_) (fun q26 => ?_)
      · unfold f_X6_step_J52
        refine ok_ite (fun q27 => ?_) (fun q27 => ?_)
        · refine ok_ite (fun q28 => ?_) (fun q28 => ?_)
          · refine ok_b1 (s_X3_append X hX 0 p0 (0 : Int32) (a1) (fun p => a2 p) (fun p => a3 p)) (fun X8 v7 w29 => ?_)
            have hX8 : IV A B X8 := w29.1
            have pf30 : (0 : Int32) ≤ (X8.1 1 0 2) ∧ (X8.1 1 0 2) ≤ (24 : Int32) := by
              have c31 : (0 : Int32) ≤ (X8.1 1 0 2) ∧ (X8.1 1 0 2) ≤ (24 : Int32) := hX8.at1 1 0 2
              exact ⟨by grind, by grind⟩
            exact ok_some ⟨hX8, pf30⟩
          · refine ok_b1 (s_X3_append X hX 0 p0 p1 (a1) (fun p => a2 p) (fun p => a3 p)) (fun X11 v10 w32 => ?_)
            have hX11 : IV A B X11 := w32.1
            have pf33 : (0 : Int32) ≤ (X11.1 1 0 2) ∧ (X11.1 1 0 2) ≤ (24 : Int32) := by
              have c34 : (0 : Int32) ≤ (X11.1 1 0 2) ∧ (X11.1 1 0 2) ≤ (24 : Int32) := hX11.at1 1 0 2
              exact ⟨by grind, by grind⟩
            exact ok_some ⟨hX11, pf33⟩
        · have pf35 : "java/lang/IllegalStateException" = "java/lang/IllegalArgumentException" ∨ "java/lang/IllegalStateException" = "java/lang/IllegalStateException" := by simp
          exact ok_some ⟨hX, pf35⟩
      · refine ok_b0 (s_X6_isOutOfRange p1) (fun v14 w36 => ?_)
        have w37 : (0 : Int32) ≤ v14 ∧ v14 ≤ (1 : Int32) := w36
        refine ok_ite (fun q38 => ?_) (fun q38 => ?_)
        · unfold f_X6_step_J52
          refine ok_ite (fun q39 => ?_) (fun q39 => ?_)
          · refine ok_ite (fun q40 => ?_) (fun q40 => ?_)
            · refine ok_b1 (s_X3_append X hX 0 p0 (0 : Int32) (a1) (fun p => a2 p) (fun p => a3 p)) (fun X8 v7 w41 => ?_)
              have hX8 : IV A B X8 := w41.1
              have pf42 : (0 : Int32) ≤ (X8.1 1 0 2) ∧ (X8.1 1 0 2) ≤ (24 : Int32) := by
                have c43 : (0 : Int32) ≤ (X8.1 1 0 2) ∧ (X8.1 1 0 2) ≤ (24 : Int32) := hX8.at1 1 0 2
                exact ⟨by grind, by grind⟩
              exact ok_some ⟨hX8, pf42⟩
            · refine ok_b1 (s_X3_append X hX 0 p0 p1 (a1) (fun p => a2 p) (fun p => a3 p)) (fun X11 v10 w44 => ?_)
              have hX11 : IV A B X11 := w44.1
              have pf45 : (0 : Int32) ≤ (X11.1 1 0 2) ∧ (X11.1 1 0 2) ≤ (24 : Int32) := by
                have c46 : (0 : Int32) ≤ (X11.1 1 0 2) ∧ (X11.1 1 0 2) ≤ (24 : Int32) := hX11.at1 1 0 2
                exact ⟨by grind, by grind⟩
              exact ok_some ⟨hX11, pf45⟩
          · have pf47 : "java/lang/IllegalStateException" = "java/lang/IllegalArgumentException" ∨ "java/lang/IllegalStateException" = "java/lang/IllegalStateException" := by simp
            exact ok_some ⟨hX, pf47⟩
        · have pf48 : "java/lang/IllegalArgumentException" = "java/lang/IllegalArgumentException" ∨ "java/lang/IllegalArgumentException" = "java/lang/IllegalStateException" := by simp
          exact ok_some ⟨hX, pf48⟩
  · have pf49 : "java/lang/IllegalArgumentException" = "java/lang/IllegalArgumentException" ∨ "java/lang/IllegalArgumentException" = "java/lang/IllegalStateException" := by simp
    exact ok_some ⟨hX, pf49⟩
theorem s_X6_wipe {A : Nat → Nat → Nat → Prop} {B : SS} (X : SS) (hX : IV A B X) (a1 : A 1 0 2) : ok (f_X6_wipe X) (fun r => IV A B r.1 ∧ (0 : Int32) ≤ r.2 ∧ r.2 ≤ (24 : Int32)) := by
  unfold f_X6_wipe
  refine ok_lq (fun v1 eq_1 => ?_)
  refine ok_b1 (s_X3_erase X hX 0 (a1)) (fun X3 v2 w2 => ?_)
  have hX3 : IV A B X3 := w2.1
  have pf3 : (0 : Int32) ≤ v1 ∧ v1 ≤ (24 : Int32) := by
    have c4 : (0 : Int32) ≤ (X.1 1 0 2) ∧ (X.1 1 0 2) ≤ (24 : Int32) := hX.at1 1 0 2
    exact ⟨by grind, by grind⟩
  exact ok_some ⟨hX3, pf3⟩
theorem s_X6_number {A : Nat → Nat → Nat → Prop} {B : SS} (X : SS) (hX : IV A B X) (p0 : Int32) (p1 : Int32) (a1 : A 4 40 2) (a2 : A 4 40 3) (a3 : ∀ p, A 5 40 p) (a4 : ∀ p, A 6 40 p) : ok (f_X6_number X p0 p1) (fun r => IV A B r.1 ∧ se (fun v => (0 : Int32) ≤ v ∧ v ≤ (6 : Int32)) (fun E => E = "java/lang/IllegalArgumentException" ∨ E = "java/lang/IllegalStateException") r.2) := by
  unfold f_X6_number
  refine ok_b0 (s_X6_isOutOfRange p0) (fun v1 w1 => ?_)
  have w2 : (0 : Int32) ≤ v1 ∧ v1 ≤ (1 : Int32) := w1
  refine ok_ite (fun q3 => ?_) (fun q3 => ?_)
  · refine ok_ite (fun q4 => ?_) (fun q4 => ?_)
    · refine ok_ite (fun q5 => ?_) (fun q5 => ?_)
      · unfold f_X6_number_J57
        refine ok_ite (fun q6 => ?_) (fun q6 => ?_)
        · refine ok_b1 (s_X4_addInput X hX 40 p0 (a1) (fun p => a3 p)) (fun X7 v6 w7 => ?_)
          have hX7 : IV A B X7 := w7.1
          have w8 : (0 : Int32) ≤ v6 ∧ v6 ≤ (4 : Int32) := w7.2
          have pf9 : (0 : Int32) ≤ v6 ∧ v6 ≤ (6 : Int32) := by
            exact ⟨by grind, by grind⟩
          exact ok_some ⟨hX7, pf9⟩
        · refine ok_b1 (s_X4_addExpected X hX 40 p0 (a2) (fun p => a4 p)) (fun X10 v9 w10 => ?_)
          have hX10 : IV A B X10 := w10.1
          have w11 : (0 : Int32) ≤ v9 ∧ v9 ≤ (6 : Int32) := w10.2
          have pf12 : (0 : Int32) ≤ v9 ∧ v9 ≤ (6 : Int32) := by
            exact ⟨by grind, by grind⟩
          exact ok_some ⟨hX10, pf12⟩
      · have pf13 : "java/lang/IllegalStateException" = "java/lang/IllegalArgumentException" ∨ "java/lang/IllegalStateException" = "java/lang/IllegalStateException" := by simp
        exact ok_some ⟨hX, pf13⟩
    · refine ok_ite (fun q14 => ?_) (fun q14 => ?_)
      · unfold f_X6_number_J57
        refine ok_ite (fun q15 => ?_) (fun q15 => ?_)
        · refine ok_b1 (s_X4_addInput X hX 40 p0 (a1) (fun p => a3 p)) (fun X7 v6 w16 => ?_)
          have hX7 : IV A B X7 := w16.1
          have w17 : (0 : Int32) ≤ v6 ∧ v6 ≤ (4 : Int32) := w16.2
          have pf18 : (0 : Int32) ≤ v6 ∧ v6 ≤ (6 : Int32) := by
            exact ⟨by grind, by grind⟩
          exact ok_some ⟨hX7, pf18⟩
        · refine ok_b1 (s_X4_addExpected X hX 40 p0 (a2) (fun p => a4 p)) (fun X10 v9 w19 => ?_)
          have hX10 : IV A B X10 := w19.1
          have w20 : (0 : Int32) ≤ v9 ∧ v9 ≤ (6 : Int32) := w19.2
          have pf21 : (0 : Int32) ≤ v9 ∧ v9 ≤ (6 : Int32) := by
            exact ⟨by grind, by grind⟩
          exact ok_some ⟨hX10, pf21⟩
      · have pf22 : "java/lang/IllegalStateException" = "java/lang/IllegalArgumentException" ∨ "java/lang/IllegalStateException" = "java/lang/IllegalStateException" := by simp
        exact ok_some ⟨hX, pf22⟩
  · have pf23 : "java/lang/IllegalArgumentException" = "java/lang/IllegalArgumentException" ∨ "java/lang/IllegalArgumentException" = "java/lang/IllegalStateException" := by simp
    exact ok_some ⟨hX, pf23⟩
theorem s_X6_clear {A : Nat → Nat → Nat → Prop} {B : SS} (X : SS) (hX : IV A B X) (a1 : A 4 40 2) (a2 : A 4 40 3) : ok (f_X6_clear X) (fun r => IV A B r.1 ∧ (0 : Int32) ≤ r.2 ∧ r.2 ≤ (10 : Int32)) := by
  unfold f_X6_clear
  refine ok_lq (fun v1 eq_1 => ?_)
  refine ok_b1 (s_X4_erase X hX 40 (a1) (a2)) (fun X3 v2 w2 => ?_)
  have hX3 : IV A B X3 := w2.1
  have w3 : ((X3.1 4 40 2) = (0 : Int32) ∧ (X3.1 4 40 3) = (0 : Int32)) := w2.2
  have pf4 : (0 : Int32) ≤ v1 ∧ v1 ≤ (10 : Int32) := by
    have c5 : (0 : Int32) ≤ (X.1 4 40 2) ∧ (X.1 4 40 2) ≤ (4 : Int32) := hX.at1 4 40 2
    have c6 : (0 : Int32) ≤ (X.1 4 40 3) ∧ (X.1 4 40 3) ≤ (6 : Int32) := hX.at1 4 40 3
    exact ⟨by grind, by grind⟩
  exact ok_some ⟨hX3, pf4⟩
theorem s_X6_kata {A : Nat → Nat → Nat → Prop} {B : SS} (X : SS) (hX : IV A B X) (p0 : Int32) (a1 : A 0 0 9) (a2 : ∀ j, A 7 j 2) : ok (f_X6_kata X p0) (fun r => IV A B r.1 ∧ se (fun v => ((-1) : Int32) ≤ v ∧ v ≤ (7 : Int32)) (fun E => E = "java/lang/IllegalArgumentException" ∨ E = "java/lang/IllegalStateException") r.2) := by
  unfold f_X6_kata
  refine ok_ite (fun q1 => ?_) (fun q1 => ?_)
  · have pf2 : "java/lang/IllegalArgumentException" = "java/lang/IllegalArgumentException" ∨ "java/lang/IllegalArgumentException" = "java/lang/IllegalStateException" := by simp
    exact ok_some ⟨hX, pf2⟩
  · refine ok_ite (fun q3 => ?_) (fun q3 => ?_)
    · refine ok_ite (fun q4 => ?_) (fun q4 => ?_)
      · refine ok_gd ?_ (fun g5 => ?_)
        · have c6 : (0 : Int32) ≤ (X.1 0 0 9) ∧ (X.1 0 0 9) ≤ (8 : Int32) := hX.at1 0 0 9
          exact vp_of (by decide) (by grind) (show (X.1 0 0 9) < (8 : Int32) by grind)
        have g5 := vp_to (by decide) g5
        have g5 : (0 : Int32) ≤ (X.1 0 0 9) ∧ (X.1 0 0 9) < (8 : Int32) := g5
        refine ok_lq (fun X5 eq_7 => ?_)
        have pf8 : (0 : Int32) ≤ p0 ∧ p0 ≤ (5 : Int32) := by
          exact ⟨by grind, by grind⟩
        have hX5 : IV A B X5 := by rw [eq_7]; exact hX.w1 rfl (a2 (((X.1 0 0 9)).toNatClampNeg)) pf8
        refine ok_lq (fun X6 eq_9 => ?_)
        have pf10 : (0 : Int32) ≤ ((X5.1 0 0 9) + (1 : Int32)) ∧ ((X5.1 0 0 9) + (1 : Int32)) ≤ (8 : Int32) := by
          have c11 : (0 : Int32) ≤ (X5.1 0 0 9) ∧ (X5.1 0 0 9) ≤ (8 : Int32) := hX5.at1 0 0 9
          have c12 : (X5.1 0 0 9) = (X.1 0 0 9) := by rw [eq_7]; exact up_k (by decide)
          have c13 : (0 : Int32) ≤ (X.1 0 0 9) ∧ (X.1 0 0 9) ≤ (8 : Int32) := hX.at1 0 0 9
          exact ⟨by grind, by grind⟩
        have hX6 : IV A B X6 := by rw [eq_9]; exact hX5.w1 rfl (a1) pf10
        have pf14 : ((-1) : Int32) ≤ ((X6.1 0 0 9) - (1 : Int32)) ∧ ((X6.1 0 0 9) - (1 : Int32)) ≤ (7 : Int32) := by
          have c15 : (0 : Int32) ≤ (X6.1 0 0 9) ∧ (X6.1 0 0 9) ≤ (8 : Int32) := hX6.at1 0 0 9
          have c16 : (X6.1 0 0 9) = ((X5.1 0 0 9) + (1 : Int32)) := by rw [eq_9]; exact up_s
          have c17 : (0 : Int32) ≤ (X5.1 0 0 9) ∧ (X5.1 0 0 9) ≤ (8 : Int32) := hX5.at1 0 0 9
          have c18 : (X5.1 0 0 9) = (X.1 0 0 9) := by rw [eq_7]; exact up_k (by decide)
          have c19 : (0 : Int32) ≤ (X.1 0 0 9) ∧ (X.1 0 0 9) ≤ (8 : Int32) := hX.at1 0 0 9
          exact ⟨by grind, by grind⟩
        exact ok_some ⟨hX6, pf14⟩
      · have pf20 : "java/lang/IllegalStateException" = "java/lang/IllegalArgumentException" ∨ "java/lang/IllegalStateException" = "java/lang/IllegalStateException" := by simp
        exact ok_some ⟨hX, pf20⟩
    · have pf21 : "java/lang/IllegalArgumentException" = "java/lang/IllegalArgumentException" ∨ "java/lang/IllegalArgumentException" = "java/lang/IllegalStateException" := by simp
      exact ok_some ⟨hX, pf21⟩
theorem s_X6_kataAt {A : Nat → Nat → Nat → Prop} {B : SS} (X : SS) (hX : IV A B X) (p0 : Int32) : ok (f_X6_kataAt X p0) (fun r => se (fun v => ((0 : Int32) ≤ p0 ∧ p0 < (X.1 0 0 9))) (fun E => E = "java/lang/IndexOutOfBoundsException") r) := by
  unfold f_X6_kataAt
  refine ok_ite (fun q1 => ?_) (fun q1 => ?_)
  · have pf2 : "java/lang/IndexOutOfBoundsException" = "java/lang/IndexOutOfBoundsException" := by simp
    exact ok_some pf2
  · refine ok_ite (fun q3 => ?_) (fun q3 => ?_)
    · refine ok_gd ?_ (fun g4 => ?_)
      · have c5 : (0 : Int32) ≤ (X.1 0 0 9) ∧ (X.1 0 0 9) ≤ (8 : Int32) := hX.at1 0 0 9
        exact vp_of (by decide) (by grind) (show p0 < (8 : Int32) by grind)
      have g4 := vp_to (by decide) g4
      have g4 : (0 : Int32) ≤ p0 ∧ p0 < (8 : Int32) := g4
      have pf6 : ((0 : Int32) ≤ p0 ∧ p0 < (X.1 0 0 9)) := by
        have c7 : (0 : Int32) ≤ (X.1 0 0 9) ∧ (X.1 0 0 9) ≤ (8 : Int32) := hX.at1 0 0 9
        grind
      exact ok_some pf6
    · have pf8 : "java/lang/IndexOutOfBoundsException" = "java/lang/IndexOutOfBoundsException" := by simp
      exact ok_some pf8
theorem s_X6_passesAll_L2 {A : Nat → Nat → Nat → Prop} {B : SS} (i2 : Nat) (i1 : Nat) (a1 : A 16 1 4) (a2 : A 16 1 5) (a3 : A 16 1 6) (a4 : A 16 1 7) (a5 : A 16 1 8) (a6 : ∀ p, A 17 1 p) (a7 : ∀ p, A 18 1 p) (a8 : ∀ p, A 19 1 p) (a9 : ∀ p, A 20 1 p) : ∀ (n : Nat), ∀ (v3 : Int32) (X4 : SS) (k1 : (SS → Option (SS × Int32))), (FU v3 5 n) → ((0 : Int32) ≤ v3 ∧ v3 ≤ (5 : Int32)) → (IV A B X4) → (∀ (k_0 : SS), (IV A B k_0) → ok (k1 k_0) (fun r => IV A B r.1 ∧ (0 : Int32) ≤ r.2 ∧ r.2 ≤ (1 : Int32))) → ok (f_X6_passesAll_L2 i2 i1 n v3 X4 k1) (fun r => IV A B r.1 ∧ (0 : Int32) ≤ r.2 ∧ r.2 ≤ (1 : Int32)) := by
  intro n
  induction n with
  | zero =>
    intro v3 X4 k1 hF iv3 hX4 hk
    exact (FU.stop hF (show v3 ≤ (5 : Int32) by grind)).elim
  | succ n ih =>
    intro v3 X4 k1 hF iv3 hX4 hk
    rw [f_X6_passesAll_L2]
    refine ok_ite (fun q1 => ?_) (fun q1 => ?_)
    · exact hk X4 hX4
    · refine ok_gd ?_ (fun g2 => ?_)
      · have c3 : (0 : Int32) ≤ (X4.1 7 i2 1) ∧ (X4.1 7 i2 1) ≤ (5 : Int32) := hX4.at1 7 i2 1
        exact vp_of (by decide) (by grind) (show v3 < (5 : Int32) by grind)
      have g2 := vp_to (by decide) g2
      have g2 : (0 : Int32) ≤ v3 ∧ v3 < (5 : Int32) := g2
      refine ok_b1 (s_X1_execute X4 hX4 1 i1 (5 * i2 + (v3).toNatClampNeg) (a1) (a2) (a3) (a4) (a5) (fun p => a6 p) (fun p => a7 p) (fun p => a8 p) (fun p => a9 p)) (fun X8 v7 w4 => ?_)
      have hX8 : IV A B X8 := w4.1
      have w5 : (33 : Int32) ≤ v7 ∧ v7 ≤ (122 : Int32) := w4.2
      refine ok_ite (fun q6 => ?_) (fun q6 => ?_)
      · have pf7 : FU (v3 + (1 : Int32)) 5 n := by
          have c8 : (0 : Int32) ≤ (X4.1 7 i2 1) ∧ (X4.1 7 i2 1) ≤ (5 : Int32) := hX4.at1 7 i2 1
          exact FU.step hF (by grind)
        have pf9 : (0 : Int32) ≤ (v3 + (1 : Int32)) ∧ (v3 + (1 : Int32)) ≤ (5 : Int32) := by
          have c10 : (0 : Int32) ≤ (X4.1 7 i2 1) ∧ (X4.1 7 i2 1) ≤ (5 : Int32) := hX4.at1 7 i2 1
          exact ⟨by grind, by grind⟩
        exact ih (v3 + (1 : Int32)) X8 k1 pf7 pf9 hX8 hk
      · have pf11 : (0 : Int32) ≤ (0 : Int32) ∧ (0 : Int32) ≤ (1 : Int32) := by
          exact ⟨by grind, by grind⟩
        exact ok_some ⟨hX8, pf11⟩
theorem s_X6_passesAll {A : Nat → Nat → Nat → Prop} {B : SS} (X : SS) (hX : IV A B X) (i1 : Nat) (i2 : Nat) (a1 : A 16 1 4) (a2 : A 16 1 5) (a3 : A 16 1 6) (a4 : A 16 1 7) (a5 : A 16 1 8) (a6 : ∀ p, A 17 1 p) (a7 : ∀ p, A 18 1 p) (a8 : ∀ p, A 19 1 p) (a9 : ∀ p, A 20 1 p) : ok (f_X6_passesAll X i1 i2) (fun r => IV A B r.1 ∧ (0 : Int32) ≤ r.2 ∧ r.2 ≤ (1 : Int32)) := by
  unfold f_X6_passesAll
  have pf1 : FU (0 : Int32) 5 1000 := by
    exact FU.start (by grind) (by decide)
  refine s_X6_passesAll_L2 i2 i1 (a1) (a2) (a3) (a4) (a5) (fun p => a6 p) (fun p => a7 p) (fun p => a8 p) (fun p => a9 p) 1000 (0 : Int32) X _ pf1 (show (0 : Int32) ≤ (0 : Int32) ∧ (0 : Int32) ≤ (5 : Int32) from ⟨by decide, by decide⟩) hX (fun X2 hX2 => ?_)
  have pf2 : (0 : Int32) ≤ (1 : Int32) ∧ (1 : Int32) ≤ (1 : Int32) := by
    exact ⟨by grind, by grind⟩
  exact ok_some ⟨hX2, pf2⟩
theorem s_X6_verdictOn {A : Nat → Nat → Nat → Prop} {B : SS} (X : SS) (hX : IV A B X) (i1 : Nat) (a1 : A 16 1 4) (a2 : A 16 1 5) (a3 : A 16 1 6) (a4 : A 16 1 7) (a5 : A 16 1 8) (a6 : ∀ p, A 17 1 p) (a7 : ∀ p, A 18 1 p) (a8 : ∀ p, A 19 1 p) (a9 : ∀ p, A 20 1 p) : ok (f_X6_verdictOn X i1) (fun r => IV A B r.1 ∧ (102 : Int32) ≤ r.2 ∧ r.2 ≤ (115 : Int32)) := by
  unfold f_X6_verdictOn
  refine ok_gd ?_ (fun g1 => ?_)
  · have c2 : (0 : Int32) ≤ (X.1 12 i1 8) ∧ (X.1 12 i1 8) ≤ (7 : Int32) := hX.at1 12 i1 8
    exact vp_of (by decide) (by grind) (show (X.1 12 i1 8) < (8 : Int32) by grind)
  have g1 := vp_to (by decide) g1
  have g1 : (0 : Int32) ≤ (X.1 12 i1 8) ∧ (X.1 12 i1 8) < (8 : Int32) := g1
  refine ok_b1 (s_X6_passesAll X hX (i1 + 1) ((X.1 12 i1 8)).toNatClampNeg (a1) (a2) (a3) (a4) (a5) (fun p => a6 p) (fun p => a7 p) (fun p => a8 p) (fun p => a9 p)) (fun X3 v2 w3 => ?_)
  have hX3 : IV A B X3 := w3.1
  have w4 : (0 : Int32) ≤ v2 ∧ v2 ≤ (1 : Int32) := w3.2
  refine ok_ite (fun q5 => ?_) (fun q5 => ?_)
  · have pf6 : (102 : Int32) ≤ (102 : Int32) ∧ (102 : Int32) ≤ (115 : Int32) := by
      exact ⟨by grind, by grind⟩
    exact ok_some ⟨hX3, pf6⟩
  · have pf7 : (102 : Int32) ≤ (115 : Int32) ∧ (115 : Int32) ≤ (115 : Int32) := by
      exact ⟨by grind, by grind⟩
    exact ok_some ⟨hX3, pf7⟩
theorem s_X6_setTest_L38 {A : Nat → Nat → Nat → Prop} {B : SS} (p0 : Int32) (ip0 : (0 : Int32) ≤ p0 ∧ p0 ≤ (7 : Int32)) (a1 : ∀ j, A 12 j 11) (a2 : A 16 1 4) (a3 : A 16 1 5) (a4 : A 16 1 6) (a5 : A 16 1 7) (a6 : A 16 1 8) (a7 : ∀ p, A 17 1 p) (a8 : ∀ p, A 18 1 p) (a9 : ∀ p, A 19 1 p) (a10 : ∀ p, A 20 1 p) : ∀ (n : Nat), ∀ (v12 : Int32) (v13 : Int32) (X14 : SS) (k9 : (Int32 → SS → Option (SS × Int32))), (FU v12 40 n) → ((0 : Int32) ≤ v12 ∧ v12 ≤ (40 : Int32)) → (IV A B X14) → ((X14.1 4 40 2) = (0 : Int32) ∧ (X14.1 4 40 3) = (0 : Int32)) → (∀ (k_0 : Int32) (k_1 : SS), (IV A B k_1) → ((k_1.1 4 40 2) = (0 : Int32) ∧ (k_1.1 4 40 3) = (0 : Int32)) → ok (k9 k_0 k_1) (fun r => IV A B r.1 ∧ ((r.1.1 4 40 2) = (0 : Int32) ∧ (r.1.1 4 40 3) = (0 : Int32)))) → ok (f_X6_setTest_L38 p0 n v12 v13 X14 k9) (fun r => IV A B r.1 ∧ ((r.1.1 4 40 2) = (0 : Int32) ∧ (r.1.1 4 40 3) = (0 : Int32))) := by
  intro n
  induction n with
  | zero =>
    intro v12 v13 X14 k9 hF iv12 hX14 x0 hk
    exact (FU.stop hF (show v12 ≤ (40 : Int32) by grind)).elim
  | succ n ih =>
    intro v12 v13 X14 k9 hF iv12 hX14 x0 hk
    rw [f_X6_setTest_L38]
    refine ok_ite (fun q1 => ?_) (fun q1 => ?_)
    · have pf2 : (X14.1 4 40 2) = (0 : Int32) ∧ (X14.1 4 40 3) = (0 : Int32) := by
        have c3 : (0 : Int32) ≤ (X14.1 4 40 2) ∧ (X14.1 4 40 2) ≤ (4 : Int32) := hX14.at1 4 40 2
        have c4 : (0 : Int32) ≤ (X14.1 4 40 3) ∧ (X14.1 4 40 3) ≤ (6 : Int32) := hX14.at1 4 40 3
        grind
      exact hk v13 X14 hX14 pf2
    · refine ok_gd ?_ (fun g5 => ?_)
      · have c6 : (0 : Int32) ≤ (X14.1 0 0 11) ∧ (X14.1 0 0 11) ≤ (40 : Int32) := hX14.at1 0 0 11
        exact vp_of (by decide) (by grind) (show v12 < (40 : Int32) by grind)
      have g5 := vp_to (by decide) g5
      have g5 : (0 : Int32) ≤ v12 ∧ v12 < (40 : Int32) := g5
      refine ok_ite (fun q7 => ?_) (fun q7 => ?_)
      · have pf8 : FU (v12 + (1 : Int32)) 40 n := by
          have c9 : (0 : Int32) ≤ (X14.1 0 0 11) ∧ (X14.1 0 0 11) ≤ (40 : Int32) := hX14.at1 0 0 11
          have c10 : (0 : Int32) ≤ (X14.1 12 (v12).toNatClampNeg 12) ∧ (X14.1 12 (v12).toNatClampNeg 12) ≤ (1 : Int32) := hX14.at1 12 ((v12).toNatClampNeg) 12
          exact FU.step hF (by grind)
        have pf11 : (0 : Int32) ≤ (v12 + (1 : Int32)) ∧ (v12 + (1 : Int32)) ≤ (40 : Int32) := by
          have c12 : (0 : Int32) ≤ (X14.1 0 0 11) ∧ (X14.1 0 0 11) ≤ (40 : Int32) := hX14.at1 0 0 11
          have c13 : (0 : Int32) ≤ (X14.1 12 (v12).toNatClampNeg 12) ∧ (X14.1 12 (v12).toNatClampNeg 12) ≤ (1 : Int32) := hX14.at1 12 ((v12).toNatClampNeg) 12
          exact ⟨by grind, by grind⟩
        have pf14 : (X14.1 4 40 2) = (0 : Int32) ∧ (X14.1 4 40 3) = (0 : Int32) := by
          have c15 : (0 : Int32) ≤ (X14.1 4 40 2) ∧ (X14.1 4 40 2) ≤ (4 : Int32) := hX14.at1 4 40 2
          have c16 : (0 : Int32) ≤ (X14.1 4 40 3) ∧ (X14.1 4 40 3) ≤ (6 : Int32) := hX14.at1 4 40 3
          grind
        exact ih (v12 + (1 : Int32)) v13 X14 k9 pf8 pf11 hX14 pf14 hk
      · refine ok_ite (fun q17 => ?_) (fun q17 => ?_)
        · refine ok_lq (fun v19 eq_18 => ?_)
          have f19 := ok_and (s_X6_verdictOn X14 hX14 (v12).toNatClampNeg (a2) (a3) (a4) (a5) (a6) (fun p => a7 p) (fun p => a8 p) (fun p => a9 p) (fun p => a10 p)) (s_X6_verdictOn (A := (fun k i p => (k = 16 ∧ p = 4) ∨ (k = 16 ∧ p = 5) ∨ (k = 16 ∧ p = 6) ∨ (k = 16 ∧ p = 7) ∨ (k = 16 ∧ p = 8) ∨ (k = 17) ∨ (k = 18) ∨ (k = 19) ∨ (k = 20))) (B := X14) X14 hX14.self (v12).toNatClampNeg (by simp) (by simp) (by simp) (by simp) (by simp) (by simp) (by simp) (by simp) (by simp))
          refine ok_b1 f19 (fun X21 v20 w20 => ?_)
          have w20a := w20.1
          have w20f : IV (fun k i p => (k = 16 ∧ p = 4) ∨ (k = 16 ∧ p = 5) ∨ (k = 16 ∧ p = 6) ∨ (k = 16 ∧ p = 7) ∨ (k = 16 ∧ p = 8) ∨ (k = 17) ∨ (k = 18) ∨ (k = 19) ∨ (k = 20)) X14 X21 := w20.2.1
          have hX21 : IV A B X21 := w20a.1
          have w21 : (102 : Int32) ≤ v20 ∧ v20 ≤ (115 : Int32) := w20a.2
          refine ok_gd ?_ (fun g22 => ?_)
          · exact okc_of (by grind) (by grind)
          refine ok_lq (fun X24 eq_23 => ?_)
          have pf24 : (0 : Int32) ≤ v20 ∧ v20 ≤ (65535 : Int32) := by
            exact ⟨by grind, by grind⟩
          have hX24 : IV A B X24 := by rw [eq_23]; exact hX21.w1 rfl (a1 ((v12).toNatClampNeg)) pf24
          refine ok_ite (fun q25 => ?_) (fun q25 => ?_)
          · have c26 : (X24.1 12 (v12).toNatClampNeg 11) = v20 := by rw [eq_23]; exact up_s
            refine ok_lq (fun v27 eq_27 => ?_)
            have pf28 : FU (v12 + (1 : Int32)) 40 n := by
              have c29 : (0 : Int32) ≤ (X14.1 0 0 11) ∧ (X14.1 0 0 11) ≤ (40 : Int32) := hX14.at1 0 0 11
              have c30 : (0 : Int32) ≤ (X14.1 12 (v12).toNatClampNeg 12) ∧ (X14.1 12 (v12).toNatClampNeg 12) ≤ (1 : Int32) := hX14.at1 12 ((v12).toNatClampNeg) 12
              have c31 : (0 : Int32) ≤ (X14.1 12 (v12).toNatClampNeg 8) ∧ (X14.1 12 (v12).toNatClampNeg 8) ≤ (7 : Int32) := hX14.at1 12 ((v12).toNatClampNeg) 8
              have c32 : (0 : Int32) ≤ (X24.1 12 (v12).toNatClampNeg 11) ∧ (X24.1 12 (v12).toNatClampNeg 11) ≤ (65535 : Int32) := hX24.at1 12 ((v12).toNatClampNeg) 11
              have c33 : (X24.1 12 (v12).toNatClampNeg 11) = v20 := by rw [eq_23]; exact up_s
              have c34 : (0 : Int32) ≤ (X14.1 12 (v12).toNatClampNeg 11) ∧ (X14.1 12 (v12).toNatClampNeg 11) ≤ (65535 : Int32) := hX14.at1 12 ((v12).toNatClampNeg) 11
              exact FU.step hF (by grind)
            have pf35 : (0 : Int32) ≤ (v12 + (1 : Int32)) ∧ (v12 + (1 : Int32)) ≤ (40 : Int32) := by
              have c36 : (0 : Int32) ≤ (X14.1 0 0 11) ∧ (X14.1 0 0 11) ≤ (40 : Int32) := hX14.at1 0 0 11
              have c37 : (0 : Int32) ≤ (X14.1 12 (v12).toNatClampNeg 12) ∧ (X14.1 12 (v12).toNatClampNeg 12) ≤ (1 : Int32) := hX14.at1 12 ((v12).toNatClampNeg) 12
              have c38 : (0 : Int32) ≤ (X14.1 12 (v12).toNatClampNeg 8) ∧ (X14.1 12 (v12).toNatClampNeg 8) ≤ (7 : Int32) := hX14.at1 12 ((v12).toNatClampNeg) 8
              have c39 : (0 : Int32) ≤ (X24.1 12 (v12).toNatClampNeg 11) ∧ (X24.1 12 (v12).toNatClampNeg 11) ≤ (65535 : Int32) := hX24.at1 12 ((v12).toNatClampNeg) 11
              have c40 : (X24.1 12 (v12).toNatClampNeg 11) = v20 := by rw [eq_23]; exact up_s
              have c41 : (0 : Int32) ≤ (X14.1 12 (v12).toNatClampNeg 11) ∧ (X14.1 12 (v12).toNatClampNeg 11) ≤ (65535 : Int32) := hX14.at1 12 ((v12).toNatClampNeg) 11
              exact ⟨by grind, by grind⟩
            have pf42 : (X24.1 4 40 2) = (0 : Int32) ∧ (X24.1 4 40 3) = (0 : Int32) := by
              have c43 : (0 : Int32) ≤ (X24.1 4 40 2) ∧ (X24.1 4 40 2) ≤ (4 : Int32) := hX24.at1 4 40 2
              have c44 : (X24.1 4 40 2) = (X21.1 4 40 2) := by rw [eq_23]; exact up_k (by decide)
              have c45 : (0 : Int32) ≤ (X24.1 4 40 3) ∧ (X24.1 4 40 3) ≤ (6 : Int32) := hX24.at1 4 40 3
              have c46 : (X24.1 4 40 3) = (X21.1 4 40 3) := by rw [eq_23]; exact up_k (by decide)
              have c47 : (0 : Int32) ≤ (X21.1 4 40 2) ∧ (X21.1 4 40 2) ≤ (4 : Int32) := hX21.at1 4 40 2
              have c48 : (X21.1 4 40 2) = (X14.1 4 40 2) := w20f.same (by simp)
              have c49 : (0 : Int32) ≤ (X21.1 4 40 3) ∧ (X21.1 4 40 3) ≤ (6 : Int32) := hX21.at1 4 40 3
              have c50 : (X21.1 4 40 3) = (X14.1 4 40 3) := w20f.same (by simp)
              have c51 : (0 : Int32) ≤ (X14.1 4 40 2) ∧ (X14.1 4 40 2) ≤ (4 : Int32) := hX14.at1 4 40 2
              have c52 : (0 : Int32) ≤ (X14.1 4 40 3) ∧ (X14.1 4 40 3) ≤ (6 : Int32) := hX14.at1 4 40 3
              grind
            exact ih (v12 + (1 : Int32)) v27 X24 k9 pf28 pf35 hX24 pf42 hk
          · have c53 : (X24.1 12 (v12).toNatClampNeg 11) = v20 := by rw [eq_23]; exact up_s
            refine ok_lq (fun v26 eq_54 => ?_)
            have pf55 : FU (v12 + (1 : Int32)) 40 n := by
              have c56 : (0 : Int32) ≤ (X14.1 0 0 11) ∧ (X14.1 0 0 11) ≤ (40 : Int32) := hX14.at1 0 0 11
              have c57 : (0 : Int32) ≤ (X14.1 12 (v12).toNatClampNeg 12) ∧ (X14.1 12 (v12).toNatClampNeg 12) ≤ (1 : Int32) := hX14.at1 12 ((v12).toNatClampNeg) 12
              have c58 : (0 : Int32) ≤ (X14.1 12 (v12).toNatClampNeg 8) ∧ (X14.1 12 (v12).toNatClampNeg 8) ≤ (7 : Int32) := hX14.at1 12 ((v12).toNatClampNeg) 8
              have c59 : (0 : Int32) ≤ (X24.1 12 (v12).toNatClampNeg 11) ∧ (X24.1 12 (v12).toNatClampNeg 11) ≤ (65535 : Int32) := hX24.at1 12 ((v12).toNatClampNeg) 11
              have c60 : (X24.1 12 (v12).toNatClampNeg 11) = v20 := by rw [eq_23]; exact up_s
              have c61 : (0 : Int32) ≤ (X14.1 12 (v12).toNatClampNeg 11) ∧ (X14.1 12 (v12).toNatClampNeg 11) ≤ (65535 : Int32) := hX14.at1 12 ((v12).toNatClampNeg) 11
              exact FU.step hF (by grind)
            have pf62 : (0 : Int32) ≤ (v12 + (1 : Int32)) ∧ (v12 + (1 : Int32)) ≤ (40 : Int32) := by
              have c63 : (0 : Int32) ≤ (X14.1 0 0 11) ∧ (X14.1 0 0 11) ≤ (40 : Int32) := hX14.at1 0 0 11
              have c64 : (0 : Int32) ≤ (X14.1 12 (v12).toNatClampNeg 12) ∧ (X14.1 12 (v12).toNatClampNeg 12) ≤ (1 : Int32) := hX14.at1 12 ((v12).toNatClampNeg) 12
              have c65 : (0 : Int32) ≤ (X14.1 12 (v12).toNatClampNeg 8) ∧ (X14.1 12 (v12).toNatClampNeg 8) ≤ (7 : Int32) := hX14.at1 12 ((v12).toNatClampNeg) 8
              have c66 : (0 : Int32) ≤ (X24.1 12 (v12).toNatClampNeg 11) ∧ (X24.1 12 (v12).toNatClampNeg 11) ≤ (65535 : Int32) := hX24.at1 12 ((v12).toNatClampNeg) 11
              have c67 : (X24.1 12 (v12).toNatClampNeg 11) = v20 := by rw [eq_23]; exact up_s
              have c68 : (0 : Int32) ≤ (X14.1 12 (v12).toNatClampNeg 11) ∧ (X14.1 12 (v12).toNatClampNeg 11) ≤ (65535 : Int32) := hX14.at1 12 ((v12).toNatClampNeg) 11
              exact ⟨by grind, by grind⟩
            have pf69 : (X24.1 4 40 2) = (0 : Int32) ∧ (X24.1 4 40 3) = (0 : Int32) := by
              have c70 : (0 : Int32) ≤ (X24.1 4 40 2) ∧ (X24.1 4 40 2) ≤ (4 : Int32) := hX24.at1 4 40 2
              have c71 : (X24.1 4 40 2) = (X21.1 4 40 2) := by rw [eq_23]; exact up_k (by decide)
              have c72 : (0 : Int32) ≤ (X24.1 4 40 3) ∧ (X24.1 4 40 3) ≤ (6 : Int32) := hX24.at1 4 40 3
              have c73 : (X24.1 4 40 3) = (X21.1 4 40 3) := by rw [eq_23]; exact up_k (by decide)
              have c74 : (0 : Int32) ≤ (X21.1 4 40 2) ∧ (X21.1 4 40 2) ≤ (4 : Int32) := hX21.at1 4 40 2
              have c75 : (X21.1 4 40 2) = (X14.1 4 40 2) := w20f.same (by simp)
              have c76 : (0 : Int32) ≤ (X21.1 4 40 3) ∧ (X21.1 4 40 3) ≤ (6 : Int32) := hX21.at1 4 40 3
              have c77 : (X21.1 4 40 3) = (X14.1 4 40 3) := w20f.same (by simp)
              have c78 : (0 : Int32) ≤ (X14.1 4 40 2) ∧ (X14.1 4 40 2) ≤ (4 : Int32) := hX14.at1 4 40 2
              have c79 : (0 : Int32) ≤ (X14.1 4 40 3) ∧ (X14.1 4 40 3) ≤ (6 : Int32) := hX14.at1 4 40 3
              grind
            exact ih (v12 + (1 : Int32)) v26 X24 k9 pf55 pf62 hX24 pf69 hk
        · have pf80 : FU (v12 + (1 : Int32)) 40 n := by
            have c81 : (0 : Int32) ≤ (X14.1 0 0 11) ∧ (X14.1 0 0 11) ≤ (40 : Int32) := hX14.at1 0 0 11
            have c82 : (0 : Int32) ≤ (X14.1 12 (v12).toNatClampNeg 12) ∧ (X14.1 12 (v12).toNatClampNeg 12) ≤ (1 : Int32) := hX14.at1 12 ((v12).toNatClampNeg) 12
            have c83 : (0 : Int32) ≤ (X14.1 12 (v12).toNatClampNeg 8) ∧ (X14.1 12 (v12).toNatClampNeg 8) ≤ (7 : Int32) := hX14.at1 12 ((v12).toNatClampNeg) 8
            exact FU.step hF (by grind)
          have pf84 : (0 : Int32) ≤ (v12 + (1 : Int32)) ∧ (v12 + (1 : Int32)) ≤ (40 : Int32) := by
            have c85 : (0 : Int32) ≤ (X14.1 0 0 11) ∧ (X14.1 0 0 11) ≤ (40 : Int32) := hX14.at1 0 0 11
            have c86 : (0 : Int32) ≤ (X14.1 12 (v12).toNatClampNeg 12) ∧ (X14.1 12 (v12).toNatClampNeg 12) ≤ (1 : Int32) := hX14.at1 12 ((v12).toNatClampNeg) 12
            have c87 : (0 : Int32) ≤ (X14.1 12 (v12).toNatClampNeg 8) ∧ (X14.1 12 (v12).toNatClampNeg 8) ≤ (7 : Int32) := hX14.at1 12 ((v12).toNatClampNeg) 8
            exact ⟨by grind, by grind⟩
          have pf88 : (X14.1 4 40 2) = (0 : Int32) ∧ (X14.1 4 40 3) = (0 : Int32) := by
            have c89 : (0 : Int32) ≤ (X14.1 4 40 2) ∧ (X14.1 4 40 2) ≤ (4 : Int32) := hX14.at1 4 40 2
            have c90 : (0 : Int32) ≤ (X14.1 4 40 3) ∧ (X14.1 4 40 3) ≤ (6 : Int32) := hX14.at1 4 40 3
            grind
          exact ih (v12 + (1 : Int32)) v13 X14 k9 pf80 pf84 hX14 pf88 hk
theorem s_X6_setTest {A : Nat → Nat → Nat → Prop} {B : SS} (X : SS) (hX : IV A B X) (p0 : Int32) (ip0 : (0 : Int32) ≤ p0 ∧ p0 ≤ (7 : Int32)) (i2 : Nat) (a1 : A 0 0 14) (a2 : ∀ j, A 12 j 11) (a3 : A 16 1 4) (a4 : A 16 1 5) (a5 : A 16 1 6) (a6 : A 16 1 7) (a7 : A 16 1 8) (a8 : ∀ p, A 17 1 p) (a9 : ∀ p, A 18 1 p) (a10 : ∀ p, A 19 1 p) (a11 : ∀ p, A 20 1 p) (a12 : A 4 i2 2) (a13 : A 4 i2 3) (a14 : A 4 i2 4) (a15 : A 4 40 2) (a16 : A 4 40 3) (a17 : ∀ p, A 5 i2 p) (a18 : ∀ p, A 6 i2 p) : ok (f_X6_setTest X p0 i2) (fun r => IV A B r.1 ∧ ((r.1.1 4 40 2) = (0 : Int32) ∧ (r.1.1 4 40 3) = (0 : Int32))) := by
  unfold f_X6_setTest
  refine ok_lq (fun X1 eq_1 => ?_)
  have hX1 : IV A B X1 := by rw [eq_1]; exact hX.w1f rfl (a1) rfl
  refine ok_b1 (s_X4_take X1 hX1 i2 40 (a12) (a13) (fun p => a17 p) (fun p => a18 p)) (fun X3 v2 w2 => ?_)
  have hX3 : IV A B X3 := w2.1
  refine ok_lq (fun X5 eq_3 => ?_)
  have hX5 : IV A B X5 := by rw [eq_3]; exact hX3.w1f rfl (a14) rfl
  have f4 := ok_and (s_X4_erase X5 hX5 40 (a15) (a16)) (s_X4_erase (A := (fun k i p => (k = 4 ∧ p = 2) ∨ (k = 4 ∧ p = 3))) (B := X5) X5 hX5.self 40 (by simp) (by simp))
  refine ok_b1 f4 (fun X7 v6 w5 => ?_)
  have w5a := w5.1
  have w5f : IV (fun k i p => (k = 4 ∧ p = 2) ∨ (k = 4 ∧ p = 3)) X5 X7 := w5.2.1
  have hX7 : IV A B X7 := w5a.1
  have w6 : ((X7.1 4 40 2) = (0 : Int32) ∧ (X7.1 4 40 3) = (0 : Int32)) := w5a.2
  have pf7 : (0 : Int32) ≤ p0 ∧ p0 ≤ (7 : Int32) := by
    exact ⟨by grind, by grind⟩
  have pf8 : FU (0 : Int32) 40 1000 := by
    exact FU.start (by grind) (by decide)
  have pf9 : (X7.1 4 40 2) = (0 : Int32) ∧ (X7.1 4 40 3) = (0 : Int32) := by
    have c10 : (0 : Int32) ≤ (X7.1 4 40 2) ∧ (X7.1 4 40 2) ≤ (4 : Int32) := hX7.at1 4 40 2
    have c11 : (0 : Int32) ≤ (X7.1 4 40 3) ∧ (X7.1 4 40 3) ≤ (6 : Int32) := hX7.at1 4 40 3
    grind
  refine s_X6_setTest_L38 p0 pf7 a2 (a3) (a4) (a5) (a6) (a7) (fun p => a8 p) (fun p => a9 p) (fun p => a10 p) (fun p => a11 p) 1000 (0 : Int32) (0 : Int32) X7 _ pf8 (show (0 : Int32) ≤ (0 : Int32) ∧ (0 : Int32) ≤ (40 : Int32) from ⟨by decide, by decide⟩) hX7 pf9 (fun v10 X11 hX11 ek => ?_)
  have eq_12 : (X11.1 4 40 2) = (0 : Int32) ∧ (X11.1 4 40 3) = (0 : Int32) := ek
  have pf13 : ((X11.1 4 40 2) = (0 : Int32) ∧ (X11.1 4 40 3) = (0 : Int32)) := by
    have c14 : (0 : Int32) ≤ (X11.1 4 40 2) ∧ (X11.1 4 40 2) ≤ (4 : Int32) := hX11.at1 4 40 2
    have c15 : (0 : Int32) ≤ (X11.1 4 40 3) ∧ (X11.1 4 40 3) ≤ (6 : Int32) := hX11.at1 4 40 3
    grind
  exact ok_some ⟨hX11, pf13⟩
theorem s_X6_test {A : Nat → Nat → Nat → Prop} {B : SS} (X : SS) (hX : IV A B X) (p0 : Int32) (a1 : A 0 0 14) (a2 : ∀ j, A 12 j 11) (a3 : A 16 1 4) (a4 : A 16 1 5) (a5 : A 16 1 6) (a6 : A 16 1 7) (a7 : A 16 1 8) (a8 : ∀ p, A 17 1 p) (a9 : ∀ p, A 18 1 p) (a10 : ∀ p, A 19 1 p) (a11 : ∀ p, A 20 1 p) (a12 : ∀ j, A 4 j 2) (a13 : ∀ j, A 4 j 3) (a14 : ∀ j, A 4 j 4) (a15 : ∀ j p, A 5 j p) (a16 : ∀ j p, A 6 j p) (a17 : ∀ j, A 7 j 1) : ok (f_X6_test X p0) (fun r => IV A B r.1 ∧ se (fun v => True) (fun E => E = "java/lang/IllegalStateException" ∨ E = "java/lang/IndexOutOfBoundsException") r.2) := by
  unfold f_X6_test
  refine ok_e0 (s_X6_kataAt X hX p0) (fun i1 w1 => ?_) (fun E4 w1 => ?_)
  · have w2 : ((0 : Int32) ≤ p0 ∧ p0 < (X.1 0 0 9)) := w1
    refine ok_ite (fun q3 => ?_) (fun q3 => ?_)
    · refine ok_lq (fun v8 eq_4 => ?_)
      refine ok_lq (fun X9 eq_5 => ?_)
      have pf6 : (0 : Int32) ≤ ((X.1 7 i1 1) + (1 : Int32)) ∧ ((X.1 7 i1 1) + (1 : Int32)) ≤ (5 : Int32) := by
        have c7 : (0 : Int32) ≤ (X.1 7 i1 1) ∧ (X.1 7 i1 1) ≤ (5 : Int32) := hX.at1 7 i1 1
        exact ⟨by grind, by grind⟩
      have hX9 : IV A B X9 := by rw [eq_5]; exact hX.w1 rfl (a17 i1) pf6
      refine ok_gd ?_ (fun g8 => ?_)
      · have c9 : (0 : Int32) ≤ (X.1 7 i1 1) ∧ (X.1 7 i1 1) ≤ (5 : Int32) := hX.at1 7 i1 1
        exact vp_of (by decide) (by grind) (show v8 < (5 : Int32) by grind)
      have g8 := vp_to (by decide) g8
      have g8 : (0 : Int32) ≤ v8 ∧ v8 < (5 : Int32) := g8
      have pf10 : (0 : Int32) ≤ p0 ∧ p0 ≤ (7 : Int32) := by
        have c11 : (0 : Int32) ≤ (X.1 0 0 9) ∧ (X.1 0 0 9) ≤ (8 : Int32) := hX.at1 0 0 9
        exact ⟨by grind, by grind⟩
      refine ok_b1 (s_X6_setTest X9 hX9 p0 pf10 (5 * i1 + (v8).toNatClampNeg) (a1) a2 (a3) (a4) (a5) (a6) (a7) (fun p => a8 p) (fun p => a9 p) (fun p => a10 p) (fun p => a11 p) (a12 (5 * i1 + (v8).toNatClampNeg)) (a13 (5 * i1 + (v8).toNatClampNeg)) (a14 (5 * i1 + (v8).toNatClampNeg)) (a12 40) (a13 40) (fun p => a15 (5 * i1 + (v8).toNatClampNeg) p) (fun p => a16 (5 * i1 + (v8).toNatClampNeg) p)) (fun X12 v11 w12 => ?_)
      have hX12 : IV A B X12 := w12.1
      have w13 : ((X12.1 4 40 2) = (0 : Int32) ∧ (X12.1 4 40 3) = (0 : Int32)) := w12.2
      exact ok_some ⟨hX12, trivial⟩
    · have pf14 : "java/lang/IllegalStateException" = "java/lang/IllegalStateException" ∨ "java/lang/IllegalStateException" = "java/lang/IndexOutOfBoundsException" := by simp
      exact ok_some ⟨hX, pf14⟩
  · have w15 : E4 = "java/lang/IndexOutOfBoundsException" := w1
    have pf16 : E4 = "java/lang/IllegalStateException" ∨ E4 = "java/lang/IndexOutOfBoundsException" := by grind
    exact ok_some ⟨hX, pf16⟩
theorem s_X6_testAt {A : Nat → Nat → Nat → Prop} {B : SS} (X : SS) (hX : IV A B X) (i1 : Nat) (p1 : Int32) : ok (f_X6_testAt X i1 p1) (fun r => se (fun v => ((0 : Int32) ≤ p1 ∧ p1 < (X.1 7 i1 1))) (fun E => E = "java/lang/IndexOutOfBoundsException") r) := by
  unfold f_X6_testAt
  refine ok_ite (fun q1 => ?_) (fun q1 => ?_)
  · have pf2 : "java/lang/IndexOutOfBoundsException" = "java/lang/IndexOutOfBoundsException" := by simp
    exact ok_some pf2
  · refine ok_ite (fun q3 => ?_) (fun q3 => ?_)
    · refine ok_gd ?_ (fun g4 => ?_)
      · have c5 : (0 : Int32) ≤ (X.1 7 i1 1) ∧ (X.1 7 i1 1) ≤ (5 : Int32) := hX.at1 7 i1 1
        exact vp_of (by decide) (by grind) (show p1 < (5 : Int32) by grind)
      have g4 := vp_to (by decide) g4
      have g4 : (0 : Int32) ≤ p1 ∧ p1 < (5 : Int32) := g4
      have pf6 : ((0 : Int32) ≤ p1 ∧ p1 < (X.1 7 i1 1)) := by
        have c7 : (0 : Int32) ≤ (X.1 7 i1 1) ∧ (X.1 7 i1 1) ≤ (5 : Int32) := hX.at1 7 i1 1
        grind
      exact ok_some pf6
    · have pf8 : "java/lang/IndexOutOfBoundsException" = "java/lang/IndexOutOfBoundsException" := by simp
      exact ok_some pf8
theorem s_X6_fix {A : Nat → Nat → Nat → Prop} {B : SS} (X : SS) (hX : IV A B X) (p0 : Int32) (p1 : Int32) (a1 : A 0 0 14) (a2 : ∀ j, A 12 j 11) (a3 : A 16 1 4) (a4 : A 16 1 5) (a5 : A 16 1 6) (a6 : A 16 1 7) (a7 : A 16 1 8) (a8 : ∀ p, A 17 1 p) (a9 : ∀ p, A 18 1 p) (a10 : ∀ p, A 19 1 p) (a11 : ∀ p, A 20 1 p) (a12 : ∀ j, A 4 j 2) (a13 : ∀ j, A 4 j 3) (a14 : ∀ j, A 4 j 4) (a15 : ∀ j p, A 5 j p) (a16 : ∀ j p, A 6 j p) : ok (f_X6_fix X p0 p1) (fun r => IV A B r.1 ∧ se (fun v => True) (fun E => E = "java/lang/IndexOutOfBoundsException") r.2) := by
  unfold f_X6_fix
  refine ok_e0 (s_X6_kataAt X hX p0) (fun i1 w1 => ?_) (fun E4 w1 => ?_)
  · have w2 : ((0 : Int32) ≤ p0 ∧ p0 < (X.1 0 0 9)) := w1
    refine ok_e0 (s_X6_testAt X hX i1 p1) (fun i7 w3 => ?_) (fun E10 w3 => ?_)
    · have w4 : ((0 : Int32) ≤ p1 ∧ p1 < (X.1 7 i1 1)) := w3
      have pf5 : (0 : Int32) ≤ p0 ∧ p0 ≤ (7 : Int32) := by
        have c6 : (0 : Int32) ≤ (X.1 0 0 9) ∧ (X.1 0 0 9) ≤ (8 : Int32) := hX.at1 0 0 9
        exact ⟨by grind, by grind⟩
      refine ok_b1 (s_X6_setTest X hX p0 pf5 i7 (a1) a2 (a3) (a4) (a5) (a6) (a7) (fun p => a8 p) (fun p => a9 p) (fun p => a10 p) (fun p => a11 p) (a12 i7) (a13 i7) (a14 i7) (a12 40) (a13 40) (fun p => a15 i7 p) (fun p => a16 i7 p)) (fun X14 v13 w7 => ?_)
      have hX14 : IV A B X14 := w7.1
      have w8 : ((X14.1 4 40 2) = (0 : Int32) ∧ (X14.1 4 40 3) = (0 : Int32)) := w7.2
      exact ok_some ⟨hX14, trivial⟩
    · have w9 : E10 = "java/lang/IndexOutOfBoundsException" := w3
      have pf10 : E10 = "java/lang/IndexOutOfBoundsException" := by grind
      exact ok_some ⟨hX, pf10⟩
  · have w11 : E4 = "java/lang/IndexOutOfBoundsException" := w1
    have pf12 : E4 = "java/lang/IndexOutOfBoundsException" := by grind
    exact ok_some ⟨hX, pf12⟩
theorem s_X6_tests {A : Nat → Nat → Nat → Prop} {B : SS} (X : SS) (hX : IV A B X) (p0 : Int32) : ok (f_X6_tests X p0) (fun r => se (fun v => (0 : Int32) ≤ v ∧ v ≤ (5 : Int32)) (fun E => E = "java/lang/IndexOutOfBoundsException") r) := by
  unfold f_X6_tests
  refine ok_e0 (s_X6_kataAt X hX p0) (fun i1 w1 => ?_) (fun E4 w1 => ?_)
  · have w2 : ((0 : Int32) ≤ p0 ∧ p0 < (X.1 0 0 9)) := w1
    have pf3 : (0 : Int32) ≤ (X.1 7 i1 1) ∧ (X.1 7 i1 1) ≤ (5 : Int32) := by
      have c4 : (0 : Int32) ≤ (X.1 7 i1 1) ∧ (X.1 7 i1 1) ≤ (5 : Int32) := hX.at1 7 i1 1
      exact ⟨by grind, by grind⟩
    exact ok_some pf3
  · have w5 : E4 = "java/lang/IndexOutOfBoundsException" := w1
    have pf6 : E4 = "java/lang/IndexOutOfBoundsException" := by grind
    exact ok_some pf6
theorem s_X6_run {A : Nat → Nat → Nat → Prop} {B : SS} (X : SS) (hX : IV A B X) (p0 : Int32) (p1 : Int32) (a1 : A 0 0 15) (a2 : A 16 0 4) (a3 : A 16 0 5) (a4 : A 16 0 6) (a5 : A 16 0 7) (a6 : A 16 0 8) (a7 : ∀ p, A 17 0 p) (a8 : ∀ p, A 18 0 p) (a9 : ∀ p, A 19 0 p) (a10 : ∀ p, A 20 0 p) : ok (f_X6_run X p0 p1) (fun r => IV A B r.1 ∧ se (fun v => (33 : Int32) ≤ v ∧ v ≤ (122 : Int32)) (fun E => E = "java/lang/IndexOutOfBoundsException" ∨ E = "java/lang/UnsupportedOperationException") r.2) := by
  unfold f_X6_run
  refine ok_e0 (s_X6_kataAt X hX p0) (fun i1 w1 => ?_) (fun E4 w1 => ?_)
  · have w2 : ((0 : Int32) ≤ p0 ∧ p0 < (X.1 0 0 9)) := w1
    refine ok_e0 (s_X6_testAt X hX i1 p1) (fun i7 w3 => ?_) (fun E10 w3 => ?_)
    · have w4 : ((0 : Int32) ≤ p1 ∧ p1 < (X.1 7 i1 1)) := w3
      refine ok_b0 (s_X3_isWhole X hX 0) (fun v13 w5 => ?_)
      have w6 : (0 : Int32) ≤ v13 ∧ v13 ≤ (1 : Int32) := w5
      refine ok_ite (fun q7 => ?_) (fun q7 => ?_)
      · have pf8 : "java/lang/UnsupportedOperationException" = "java/lang/IndexOutOfBoundsException" ∨ "java/lang/UnsupportedOperationException" = "java/lang/UnsupportedOperationException" := by simp
        exact ok_some ⟨hX, pf8⟩
      · refine ok_lq (fun X16 eq_9 => ?_)
        have hX16 : IV A B X16 := by rw [eq_9]; exact hX.w1 rfl (a1) (show (0 : Int32) ≤ (1 : Int32) ∧ (1 : Int32) ≤ (1 : Int32) from ⟨by decide, by decide⟩)
        refine ok_b1 (s_X1_execute X16 hX16 0 0 i7 (a2) (a3) (a4) (a5) (a6) (fun p => a7 p) (fun p => a8 p) (fun p => a9 p) (fun p => a10 p)) (fun X18 v17 w10 => ?_)
        have hX18 : IV A B X18 := w10.1
        have w11 : (33 : Int32) ≤ v17 ∧ v17 ≤ (122 : Int32) := w10.2
        refine ok_gd ?_ (fun g12 => ?_)
        · exact okc_of (by grind) (by grind)
        have pf13 : (33 : Int32) ≤ v17 ∧ v17 ≤ (122 : Int32) := by
          exact ⟨by grind, by grind⟩
        exact ok_some ⟨hX18, pf13⟩
    · have w14 : E10 = "java/lang/IndexOutOfBoundsException" := w3
      have pf15 : E10 = "java/lang/IndexOutOfBoundsException" ∨ E10 = "java/lang/UnsupportedOperationException" := by grind
      exact ok_some ⟨hX, pf15⟩
  · have w16 : E4 = "java/lang/IndexOutOfBoundsException" := w1
    have pf17 : E4 = "java/lang/IndexOutOfBoundsException" ∨ E4 = "java/lang/UnsupportedOperationException" := by grind
    exact ok_some ⟨hX, pf17⟩
theorem s_X6_lastRun {A : Nat → Nat → Nat → Prop} {B : SS} (X : SS) (hX : IV A B X) : ok (f_X6_lastRun X) (fun r => se (fun v => True) (fun E => E = "java/util/NoSuchElementException") r) := by
  unfold f_X6_lastRun
  refine ok_ite (fun q1 => ?_) (fun q1 => ?_)
  · have pf2 : "java/util/NoSuchElementException" = "java/util/NoSuchElementException" := by simp
    exact ok_some pf2
  · exact ok_some trivial
theorem s_X6_done {A : Nat → Nat → Nat → Prop} {B : SS} (X : SS) (hX : IV A B X) : ok (f_X6_done X) (fun r => se (fun v => True) (fun E => E = "java/util/NoSuchElementException") r) := by
  unfold f_X6_done
  refine ok_e0 (s_X6_lastRun X hX) (fun i1 w1 => ?_) (fun E4 w1 => ?_)
  · exact ok_some trivial
  · have w2 : E4 = "java/util/NoSuchElementException" := w1
    have pf3 : E4 = "java/util/NoSuchElementException" := by grind
    exact ok_some pf3
theorem s_X6_outputs {A : Nat → Nat → Nat → Prop} {B : SS} (X : SS) (hX : IV A B X) : ok (f_X6_outputs X) (fun r => se (fun v => (0 : Int32) ≤ v ∧ v ≤ (6 : Int32)) (fun E => E = "java/util/NoSuchElementException") r) := by
  unfold f_X6_outputs
  refine ok_e0 (s_X6_lastRun X hX) (fun i1 w1 => ?_) (fun E4 w1 => ?_)
  · have pf2 : (0 : Int32) ≤ (X.1 16 i1 5) ∧ (X.1 16 i1 5) ≤ (6 : Int32) := by
      have c3 : (0 : Int32) ≤ (X.1 16 i1 5) ∧ (X.1 16 i1 5) ≤ (6 : Int32) := hX.at1 16 i1 5
      exact ⟨by grind, by grind⟩
    exact ok_some pf2
  · have w4 : E4 = "java/util/NoSuchElementException" := w1
    have pf5 : E4 = "java/util/NoSuchElementException" := by grind
    exact ok_some pf5
theorem s_X6_output {A : Nat → Nat → Nat → Prop} {B : SS} (X : SS) (hX : IV A B X) (p0 : Int32) : ok (f_X6_output X p0) (fun r => se (fun v => True) (fun E => E = "java/util/NoSuchElementException") r) := by
  unfold f_X6_output
  refine ok_e0 (s_X6_lastRun X hX) (fun i1 w1 => ?_) (fun E4 w1 => ?_)
  · refine ok_ite (fun q2 => ?_) (fun q2 => ?_)
    · have pf3 : "java/util/NoSuchElementException" = "java/util/NoSuchElementException" := by simp
      exact ok_some pf3
    · refine ok_ite (fun q4 => ?_) (fun q4 => ?_)
      · refine ok_gd ?_ (fun g5 => ?_)
        · have c6 : (0 : Int32) ≤ (X.1 16 i1 5) ∧ (X.1 16 i1 5) ≤ (6 : Int32) := hX.at1 16 i1 5
          exact vp_of (by decide) (by grind) (show p0 < (6 : Int32) by grind)
        have g5 := vp_to (by decide) g5
        have g5 : (0 : Int32) ≤ p0 ∧ p0 < (6 : Int32) := g5
        exact ok_some trivial
      · have pf7 : "java/util/NoSuchElementException" = "java/util/NoSuchElementException" := by simp
        exact ok_some pf7
  · have w8 : E4 = "java/util/NoSuchElementException" := w1
    have pf9 : E4 = "java/util/NoSuchElementException" := by grind
    exact ok_some pf9
theorem s_X6_depth {A : Nat → Nat → Nat → Prop} {B : SS} (X : SS) (hX : IV A B X) : ok (f_X6_depth X) (fun r => se (fun v => (0 : Int32) ≤ v ∧ v ≤ (12 : Int32)) (fun E => E = "java/util/NoSuchElementException") r) := by
  unfold f_X6_depth
  refine ok_e0 (s_X6_lastRun X hX) (fun i1 w1 => ?_) (fun E4 w1 => ?_)
  · have pf2 : (0 : Int32) ≤ (X.1 16 i1 4) ∧ (X.1 16 i1 4) ≤ (12 : Int32) := by
      have c3 : (0 : Int32) ≤ (X.1 16 i1 4) ∧ (X.1 16 i1 4) ≤ (12 : Int32) := hX.at1 16 i1 4
      exact ⟨by grind, by grind⟩
    exact ok_some pf2
  · have w4 : E4 = "java/util/NoSuchElementException" := w1
    have pf5 : E4 = "java/util/NoSuchElementException" := by grind
    exact ok_some pf5
theorem s_X6_member {A : Nat → Nat → Nat → Prop} {B : SS} (X : SS) (hX : IV A B X) (a1 : A 0 0 10) : ok (f_X6_member X) (fun r => IV A B r.1 ∧ se (fun v => ((-1) : Int32) ≤ v ∧ v ≤ (9 : Int32)) (fun E => E = "java/lang/IllegalStateException") r.2) := by
  unfold f_X6_member
  refine ok_ite (fun q1 => ?_) (fun q1 => ?_)
  · refine ok_lq (fun X2 eq_2 => ?_)
    have pf3 : (0 : Int32) ≤ ((X.1 0 0 10) + (1 : Int32)) ∧ ((X.1 0 0 10) + (1 : Int32)) ≤ (10 : Int32) := by
      have c4 : (0 : Int32) ≤ (X.1 0 0 10) ∧ (X.1 0 0 10) ≤ (10 : Int32) := hX.at1 0 0 10
      exact ⟨by grind, by grind⟩
    have hX2 : IV A B X2 := by rw [eq_2]; exact hX.w1 rfl (a1) pf3
    have pf5 : ((-1) : Int32) ≤ ((X2.1 0 0 10) - (1 : Int32)) ∧ ((X2.1 0 0 10) - (1 : Int32)) ≤ (9 : Int32) := by
      have c6 : (0 : Int32) ≤ (X2.1 0 0 10) ∧ (X2.1 0 0 10) ≤ (10 : Int32) := hX2.at1 0 0 10
      have c7 : (X2.1 0 0 10) = ((X.1 0 0 10) + (1 : Int32)) := by rw [eq_2]; exact up_s
      have c8 : (0 : Int32) ≤ (X.1 0 0 10) ∧ (X.1 0 0 10) ≤ (10 : Int32) := hX.at1 0 0 10
      exact ⟨by grind, by grind⟩
    exact ok_some ⟨hX2, pf5⟩
  · have pf9 : "java/lang/IllegalStateException" = "java/lang/IllegalStateException" := by simp
    exact ok_some ⟨hX, pf9⟩
theorem s_X6_memberAt {A : Nat → Nat → Nat → Prop} {B : SS} (X : SS) (hX : IV A B X) (p0 : Int32) : ok (f_X6_memberAt X p0) (fun r => se (fun v => v < 10 ∧ ((0 : Int32) ≤ p0 ∧ p0 < (X.1 0 0 10))) (fun E => E = "java/lang/IndexOutOfBoundsException") r) := by
  unfold f_X6_memberAt
  refine ok_ite (fun q1 => ?_) (fun q1 => ?_)
  · have pf2 : "java/lang/IndexOutOfBoundsException" = "java/lang/IndexOutOfBoundsException" := by simp
    exact ok_some pf2
  · refine ok_ite (fun q3 => ?_) (fun q3 => ?_)
    · refine ok_gd ?_ (fun g4 => ?_)
      · have c5 : (0 : Int32) ≤ (X.1 0 0 10) ∧ (X.1 0 0 10) ≤ (10 : Int32) := hX.at1 0 0 10
        exact vp_of (by decide) (by grind) (show p0 < (10 : Int32) by grind)
      have g4 := vp_to (by decide) g4
      have g4 : (0 : Int32) ≤ p0 ∧ p0 < (10 : Int32) := g4
      have pf6 : ((0 : Int32) ≤ p0 ∧ p0 < (X.1 0 0 10)) := by
        have c7 : (0 : Int32) ≤ (X.1 0 0 10) ∧ (X.1 0 0 10) ≤ (10 : Int32) := hX.at1 0 0 10
        grind
      exact ok_some ⟨by have := cl_lt (n := 10) (x := p0) (by assumption); exact this, pf6⟩
    · have pf8 : "java/lang/IndexOutOfBoundsException" = "java/lang/IndexOutOfBoundsException" := by simp
      exact ok_some pf8
theorem s_X6_bodyCount_L4 {A : Nat → Nat → Nat → Prop} {B : SS} (X : SS) (hX : IV A B X) : ∀ (n : Nat), ∀ (v3 : Int32) (v4 : Int32) (k1 : (Int32 → Option (Int32))), (FU v3 40 n) → ((0 : Int32) ≤ v3 ∧ v3 ≤ (40 : Int32)) → ((0 : Int32) ≤ v4) → (v4 ≤ v3) → (∀ (k_0 : Int32), ((0 : Int32) ≤ k_0 ∧ k_0 ≤ (40 : Int32)) → ok (k1 k_0) (fun r => ((0 : Int32) ≤ r ∧ r ≤ (40 : Int32)))) → ok (f_X6_bodyCount_L4 X n v3 v4 k1) (fun r => ((0 : Int32) ≤ r ∧ r ≤ (40 : Int32))) := by
  intro n
  induction n with
  | zero =>
    intro v3 v4 k1 hF iv3 x0 x1 hk
    exact (FU.stop hF (show v3 ≤ (40 : Int32) by grind)).elim
  | succ n ih =>
    intro v3 v4 k1 hF iv3 x0 x1 hk
    rw [f_X6_bodyCount_L4]
    refine ok_ite (fun q1 => ?_) (fun q1 => ?_)
    · have pf2 : (0 : Int32) ≤ v4 ∧ v4 ≤ (40 : Int32) := by
        have c3 : (0 : Int32) ≤ (X.1 0 0 11) ∧ (X.1 0 0 11) ≤ (40 : Int32) := hX.at1 0 0 11
        grind
      exact hk v4 pf2
    · refine ok_gd ?_ (fun g4 => ?_)
      · have c5 : (0 : Int32) ≤ (X.1 0 0 11) ∧ (X.1 0 0 11) ≤ (40 : Int32) := hX.at1 0 0 11
        exact vp_of (by decide) (by grind) (show v3 < (40 : Int32) by grind)
      have g4 := vp_to (by decide) g4
      have g4 : (0 : Int32) ≤ v3 ∧ v3 < (40 : Int32) := g4
      refine ok_ite (fun q6 => ?_) (fun q6 => ?_)
      · refine ok_lq (fun v8 eq_7 => ?_)
        have pf8 : FU (v3 + (1 : Int32)) 40 n := by
          have c9 : (0 : Int32) ≤ (X.1 0 0 11) ∧ (X.1 0 0 11) ≤ (40 : Int32) := hX.at1 0 0 11
          have c10 : (0 : Int32) ≤ (X.1 12 (v3).toNatClampNeg 12) ∧ (X.1 12 (v3).toNatClampNeg 12) ≤ (1 : Int32) := hX.at1 12 ((v3).toNatClampNeg) 12
          exact FU.step hF (by grind)
        have pf11 : (0 : Int32) ≤ (v3 + (1 : Int32)) ∧ (v3 + (1 : Int32)) ≤ (40 : Int32) := by
          have c12 : (0 : Int32) ≤ (X.1 0 0 11) ∧ (X.1 0 0 11) ≤ (40 : Int32) := hX.at1 0 0 11
          have c13 : (0 : Int32) ≤ (X.1 12 (v3).toNatClampNeg 12) ∧ (X.1 12 (v3).toNatClampNeg 12) ≤ (1 : Int32) := hX.at1 12 ((v3).toNatClampNeg) 12
          exact ⟨by grind, by grind⟩
        have pf14 : (0 : Int32) ≤ v8 := by
          have c15 : (0 : Int32) ≤ (X.1 0 0 11) ∧ (X.1 0 0 11) ≤ (40 : Int32) := hX.at1 0 0 11
          have c16 : (0 : Int32) ≤ (X.1 12 (v3).toNatClampNeg 12) ∧ (X.1 12 (v3).toNatClampNeg 12) ≤ (1 : Int32) := hX.at1 12 ((v3).toNatClampNeg) 12
          grind
        have pf17 : v8 ≤ (v3 + (1 : Int32)) := by
          have c18 : (0 : Int32) ≤ (X.1 0 0 11) ∧ (X.1 0 0 11) ≤ (40 : Int32) := hX.at1 0 0 11
          have c19 : (0 : Int32) ≤ (X.1 12 (v3).toNatClampNeg 12) ∧ (X.1 12 (v3).toNatClampNeg 12) ≤ (1 : Int32) := hX.at1 12 ((v3).toNatClampNeg) 12
          grind
        exact ih (v3 + (1 : Int32)) v8 k1 pf8 pf11 pf14 pf17 hk
      · refine ok_lq (fun v9 eq_20 => ?_)
        have pf21 : FU (v3 + (1 : Int32)) 40 n := by
          have c22 : (0 : Int32) ≤ (X.1 0 0 11) ∧ (X.1 0 0 11) ≤ (40 : Int32) := hX.at1 0 0 11
          have c23 : (0 : Int32) ≤ (X.1 12 (v3).toNatClampNeg 12) ∧ (X.1 12 (v3).toNatClampNeg 12) ≤ (1 : Int32) := hX.at1 12 ((v3).toNatClampNeg) 12
          exact FU.step hF (by grind)
        have pf24 : (0 : Int32) ≤ (v3 + (1 : Int32)) ∧ (v3 + (1 : Int32)) ≤ (40 : Int32) := by
          have c25 : (0 : Int32) ≤ (X.1 0 0 11) ∧ (X.1 0 0 11) ≤ (40 : Int32) := hX.at1 0 0 11
          have c26 : (0 : Int32) ≤ (X.1 12 (v3).toNatClampNeg 12) ∧ (X.1 12 (v3).toNatClampNeg 12) ≤ (1 : Int32) := hX.at1 12 ((v3).toNatClampNeg) 12
          exact ⟨by grind, by grind⟩
        have pf27 : (0 : Int32) ≤ v9 := by
          have c28 : (0 : Int32) ≤ (X.1 0 0 11) ∧ (X.1 0 0 11) ≤ (40 : Int32) := hX.at1 0 0 11
          have c29 : (0 : Int32) ≤ (X.1 12 (v3).toNatClampNeg 12) ∧ (X.1 12 (v3).toNatClampNeg 12) ≤ (1 : Int32) := hX.at1 12 ((v3).toNatClampNeg) 12
          grind
        have pf30 : v9 ≤ (v3 + (1 : Int32)) := by
          have c31 : (0 : Int32) ≤ (X.1 0 0 11) ∧ (X.1 0 0 11) ≤ (40 : Int32) := hX.at1 0 0 11
          have c32 : (0 : Int32) ≤ (X.1 12 (v3).toNatClampNeg 12) ∧ (X.1 12 (v3).toNatClampNeg 12) ≤ (1 : Int32) := hX.at1 12 ((v3).toNatClampNeg) 12
          grind
        exact ih (v3 + (1 : Int32)) v9 k1 pf21 pf24 pf27 pf30 hk
theorem s_X6_bodyCount {A : Nat → Nat → Nat → Prop} {B : SS} (X : SS) (hX : IV A B X) : ok (f_X6_bodyCount X) (fun r => ((0 : Int32) ≤ r ∧ r ≤ (40 : Int32))) := by
  unfold f_X6_bodyCount
  have pf1 : FU (0 : Int32) 40 1000 := by
    exact FU.start (by grind) (by decide)
  have pf2 : (0 : Int32) ≤ (0 : Int32) := by
    grind
  have pf3 : (0 : Int32) ≤ (0 : Int32) := by
    grind
  refine s_X6_bodyCount_L4 X hX 1000 (0 : Int32) (0 : Int32) _ pf1 (show (0 : Int32) ≤ (0 : Int32) ∧ (0 : Int32) ≤ (40 : Int32) from ⟨by decide, by decide⟩) pf2 pf3 (fun v2 ek => ?_)
  have eq_4 : (0 : Int32) ≤ v2 ∧ v2 ≤ (40 : Int32) := ek
  have pf5 : ((0 : Int32) ≤ v2 ∧ v2 ≤ (40 : Int32)) := by
    grind
  exact ok_some pf5
theorem s_X6_isDroppedBefore {A : Nat → Nat → Nat → Prop} {B : SS} (X : SS) (hX : IV A B X) (i1 : Nat) (i2 : Nat) : ok (f_X6_isDroppedBefore X i1 i2) (fun r => (0 : Int32) ≤ r ∧ r ≤ (1 : Int32)) := by
  unfold f_X6_isDroppedBefore
  refine ok_ite (fun q1 => ?_) (fun q1 => ?_)
  · unfold f_X6_isDroppedBefore_J14
    refine ok_ite (fun q2 => ?_) (fun q2 => ?_)
    · unfold f_X6_isDroppedBefore_J30
      refine ok_ite (fun q3 => ?_) (fun q3 => ?_)
      · refine ok_ite (fun q4 => ?_) (fun q4 => ?_)
        · have pf5 : (0 : Int32) ≤ (0 : Int32) ∧ (0 : Int32) ≤ (1 : Int32) := by
            exact ⟨by grind, by grind⟩
          exact ok_some pf5
        · have pf6 : (0 : Int32) ≤ (1 : Int32) ∧ (1 : Int32) ≤ (1 : Int32) := by
            exact ⟨by grind, by grind⟩
          exact ok_some pf6
      · refine ok_gd ?_ (fun g7 => ?_)
        · exact okz_of (by grind) (by grind)
        have pf8 : (0 : Int32) ≤ (1 : Int32) ∧ (1 : Int32) ≤ (1 : Int32) := by
          exact ⟨by grind, by grind⟩
        exact ok_some pf8
    · unfold f_X6_isDroppedBefore_J30
      refine ok_ite (fun q9 => ?_) (fun q9 => ?_)
      · refine ok_ite (fun q10 => ?_) (fun q10 => ?_)
        · have pf11 : (0 : Int32) ≤ (0 : Int32) ∧ (0 : Int32) ≤ (1 : Int32) := by
            exact ⟨by grind, by grind⟩
          exact ok_some pf11
        · have pf12 : (0 : Int32) ≤ (1 : Int32) ∧ (1 : Int32) ≤ (1 : Int32) := by
            exact ⟨by grind, by grind⟩
          exact ok_some pf12
      · refine ok_gd ?_ (fun g13 => ?_)
        · exact okz_of (by grind) (by grind)
        have pf14 : (0 : Int32) ≤ (1 : Int32) ∧ (1 : Int32) ≤ (1 : Int32) := by
          exact ⟨by grind, by grind⟩
        exact ok_some pf14
  · unfold f_X6_isDroppedBefore_J14
    refine ok_ite (fun q15 => ?_) (fun q15 => ?_)
    · unfold f_X6_isDroppedBefore_J30
      refine ok_ite (fun q16 => ?_) (fun q16 => ?_)
      · refine ok_ite (fun q17 => ?_) (fun q17 => ?_)
        · have pf18 : (0 : Int32) ≤ (0 : Int32) ∧ (0 : Int32) ≤ (1 : Int32) := by
            exact ⟨by grind, by grind⟩
          exact ok_some pf18
        · have pf19 : (0 : Int32) ≤ (1 : Int32) ∧ (1 : Int32) ≤ (1 : Int32) := by
            exact ⟨by grind, by grind⟩
          exact ok_some pf19
      · refine ok_gd ?_ (fun g20 => ?_)
        · exact okz_of (by grind) (by grind)
        have pf21 : (0 : Int32) ≤ (0 : Int32) ∧ (0 : Int32) ≤ (1 : Int32) := by
          exact ⟨by grind, by grind⟩
        exact ok_some pf21
    · unfold f_X6_isDroppedBefore_J30
      refine ok_ite (fun q22 => ?_) (fun q22 => ?_)
      · refine ok_ite (fun q23 => ?_) (fun q23 => ?_)
        · have pf24 : (0 : Int32) ≤ (0 : Int32) ∧ (0 : Int32) ≤ (1 : Int32) := by
            exact ⟨by grind, by grind⟩
          exact ok_some pf24
        · have pf25 : (0 : Int32) ≤ (1 : Int32) ∧ (1 : Int32) ≤ (1 : Int32) := by
            exact ⟨by grind, by grind⟩
          exact ok_some pf25
      · refine ok_gd ?_ (fun g26 => ?_)
        · exact okz_of (by grind) (by grind)
        have pf27 : (0 : Int32) ≤ (0 : Int32) ∧ (0 : Int32) ≤ (1 : Int32) := by
          exact ⟨by grind, by grind⟩
        exact ok_some pf27
theorem s_X6_nextToDrop_L4 {A : Nat → Nat → Nat → Prop} {B : SS} (X : SS) (hX : IV A B X) : ∀ (n : Nat), ∀ (v3 : Int32) (v4 : Int32) (k1 : (Int32 → Option (Int32))), (FU v3 40 n) → ((0 : Int32) ≤ v3 ∧ v3 ≤ (40 : Int32)) → (((-1) : Int32) ≤ v4 ∧ v4 ≤ (39 : Int32)) → (∀ (k_0 : Int32), (((-1) : Int32) ≤ k_0 ∧ k_0 ≤ (39 : Int32)) → ok (k1 k_0) (fun r => ((-1) : Int32) ≤ r ∧ r ≤ (39 : Int32))) → ok (f_X6_nextToDrop_L4 X n v3 v4 k1) (fun r => ((-1) : Int32) ≤ r ∧ r ≤ (39 : Int32)) := by
  intro n
  induction n with
  | zero =>
    intro v3 v4 k1 hF iv3 iv4 hk
    exact (FU.stop hF (show v3 ≤ (40 : Int32) by grind)).elim
  | succ n ih =>
    intro v3 v4 k1 hF iv3 iv4 hk
    rw [f_X6_nextToDrop_L4]
    refine ok_ite (fun q1 => ?_) (fun q1 => ?_)
    · have pf2 : ((-1) : Int32) ≤ v4 ∧ v4 ≤ (39 : Int32) := by
        exact ⟨by grind, by grind⟩
      exact hk v4 pf2
    · refine ok_gd ?_ (fun g3 => ?_)
      · have c4 : (0 : Int32) ≤ (X.1 0 0 11) ∧ (X.1 0 0 11) ≤ (40 : Int32) := hX.at1 0 0 11
        exact vp_of (by decide) (by grind) (show v3 < (40 : Int32) by grind)
      have g3 := vp_to (by decide) g3
      have g3 : (0 : Int32) ≤ v3 ∧ v3 < (40 : Int32) := g3
      refine ok_ite (fun q5 => ?_) (fun q5 => ?_)
      · have pf6 : FU (v3 + (1 : Int32)) 40 n := by
          have c7 : (0 : Int32) ≤ (X.1 0 0 11) ∧ (X.1 0 0 11) ≤ (40 : Int32) := hX.at1 0 0 11
          have c8 : (0 : Int32) ≤ (X.1 12 (v3).toNatClampNeg 12) ∧ (X.1 12 (v3).toNatClampNeg 12) ≤ (1 : Int32) := hX.at1 12 ((v3).toNatClampNeg) 12
          exact FU.step hF (by grind)
        have pf9 : (0 : Int32) ≤ (v3 + (1 : Int32)) ∧ (v3 + (1 : Int32)) ≤ (40 : Int32) := by
          have c10 : (0 : Int32) ≤ (X.1 0 0 11) ∧ (X.1 0 0 11) ≤ (40 : Int32) := hX.at1 0 0 11
          have c11 : (0 : Int32) ≤ (X.1 12 (v3).toNatClampNeg 12) ∧ (X.1 12 (v3).toNatClampNeg 12) ≤ (1 : Int32) := hX.at1 12 ((v3).toNatClampNeg) 12
          exact ⟨by grind, by grind⟩
        have pf12 : ((-1) : Int32) ≤ v4 ∧ v4 ≤ (39 : Int32) := by
          exact ⟨by grind, by grind⟩
        exact ih (v3 + (1 : Int32)) v4 k1 pf6 pf9 pf12 hk
      · refine ok_ite (fun q13 => ?_) (fun q13 => ?_)
        · have pf14 : FU (v3 + (1 : Int32)) 40 n := by
            have c15 : (0 : Int32) ≤ (X.1 0 0 11) ∧ (X.1 0 0 11) ≤ (40 : Int32) := hX.at1 0 0 11
            have c16 : (0 : Int32) ≤ (X.1 12 (v3).toNatClampNeg 12) ∧ (X.1 12 (v3).toNatClampNeg 12) ≤ (1 : Int32) := hX.at1 12 ((v3).toNatClampNeg) 12
            exact FU.step hF (by grind)
          have pf17 : (0 : Int32) ≤ (v3 + (1 : Int32)) ∧ (v3 + (1 : Int32)) ≤ (40 : Int32) := by
            have c18 : (0 : Int32) ≤ (X.1 0 0 11) ∧ (X.1 0 0 11) ≤ (40 : Int32) := hX.at1 0 0 11
            have c19 : (0 : Int32) ≤ (X.1 12 (v3).toNatClampNeg 12) ∧ (X.1 12 (v3).toNatClampNeg 12) ≤ (1 : Int32) := hX.at1 12 ((v3).toNatClampNeg) 12
            exact ⟨by grind, by grind⟩
          have pf20 : ((-1) : Int32) ≤ v3 ∧ v3 ≤ (39 : Int32) := by
            have c21 : (0 : Int32) ≤ (X.1 0 0 11) ∧ (X.1 0 0 11) ≤ (40 : Int32) := hX.at1 0 0 11
            have c22 : (0 : Int32) ≤ (X.1 12 (v3).toNatClampNeg 12) ∧ (X.1 12 (v3).toNatClampNeg 12) ≤ (1 : Int32) := hX.at1 12 ((v3).toNatClampNeg) 12
            exact ⟨by grind, by grind⟩
          exact ih (v3 + (1 : Int32)) v3 k1 pf14 pf17 pf20 hk
        · refine ok_gd ?_ (fun g23 => ?_)
          · have c24 : (0 : Int32) ≤ (X.1 0 0 11) ∧ (X.1 0 0 11) ≤ (40 : Int32) := hX.at1 0 0 11
            have c25 : (0 : Int32) ≤ (X.1 12 (v3).toNatClampNeg 12) ∧ (X.1 12 (v3).toNatClampNeg 12) ≤ (1 : Int32) := hX.at1 12 ((v3).toNatClampNeg) 12
            exact vp_of (by decide) (by grind) (show v3 < (40 : Int32) by grind)
          have g23 := vp_to (by decide) g23
          have g23 : (0 : Int32) ≤ v3 ∧ v3 < (40 : Int32) := g23
          refine ok_gd ?_ (fun g26 => ?_)
          · exact vp_of (by decide) (by grind) (show v4 < (40 : Int32) by grind)
          have g26 := vp_to (by decide) g26
          have g26 : (0 : Int32) ≤ v4 ∧ v4 < (40 : Int32) := g26
          refine ok_b0 (s_X6_isDroppedBefore X hX (v3).toNatClampNeg (v4).toNatClampNeg) (fun v11 w27 => ?_)
          have w28 : (0 : Int32) ≤ v11 ∧ v11 ≤ (1 : Int32) := w27
          refine ok_ite (fun q29 => ?_) (fun q29 => ?_)
          · have pf30 : FU (v3 + (1 : Int32)) 40 n := by
              have c31 : (0 : Int32) ≤ (X.1 0 0 11) ∧ (X.1 0 0 11) ≤ (40 : Int32) := hX.at1 0 0 11
              have c32 : (0 : Int32) ≤ (X.1 12 (v3).toNatClampNeg 12) ∧ (X.1 12 (v3).toNatClampNeg 12) ≤ (1 : Int32) := hX.at1 12 ((v3).toNatClampNeg) 12
              exact FU.step hF (by grind)
            have pf33 : (0 : Int32) ≤ (v3 + (1 : Int32)) ∧ (v3 + (1 : Int32)) ≤ (40 : Int32) := by
              have c34 : (0 : Int32) ≤ (X.1 0 0 11) ∧ (X.1 0 0 11) ≤ (40 : Int32) := hX.at1 0 0 11
              have c35 : (0 : Int32) ≤ (X.1 12 (v3).toNatClampNeg 12) ∧ (X.1 12 (v3).toNatClampNeg 12) ≤ (1 : Int32) := hX.at1 12 ((v3).toNatClampNeg) 12
              exact ⟨by grind, by grind⟩
            have pf36 : ((-1) : Int32) ≤ v4 ∧ v4 ≤ (39 : Int32) := by
              exact ⟨by grind, by grind⟩
            exact ih (v3 + (1 : Int32)) v4 k1 pf30 pf33 pf36 hk
          · have pf37 : FU (v3 + (1 : Int32)) 40 n := by
              have c38 : (0 : Int32) ≤ (X.1 0 0 11) ∧ (X.1 0 0 11) ≤ (40 : Int32) := hX.at1 0 0 11
              have c39 : (0 : Int32) ≤ (X.1 12 (v3).toNatClampNeg 12) ∧ (X.1 12 (v3).toNatClampNeg 12) ≤ (1 : Int32) := hX.at1 12 ((v3).toNatClampNeg) 12
              exact FU.step hF (by grind)
            have pf40 : (0 : Int32) ≤ (v3 + (1 : Int32)) ∧ (v3 + (1 : Int32)) ≤ (40 : Int32) := by
              have c41 : (0 : Int32) ≤ (X.1 0 0 11) ∧ (X.1 0 0 11) ≤ (40 : Int32) := hX.at1 0 0 11
              have c42 : (0 : Int32) ≤ (X.1 12 (v3).toNatClampNeg 12) ∧ (X.1 12 (v3).toNatClampNeg 12) ≤ (1 : Int32) := hX.at1 12 ((v3).toNatClampNeg) 12
              exact ⟨by grind, by grind⟩
            have pf43 : ((-1) : Int32) ≤ v3 ∧ v3 ≤ (39 : Int32) := by
              have c44 : (0 : Int32) ≤ (X.1 0 0 11) ∧ (X.1 0 0 11) ≤ (40 : Int32) := hX.at1 0 0 11
              have c45 : (0 : Int32) ≤ (X.1 12 (v3).toNatClampNeg 12) ∧ (X.1 12 (v3).toNatClampNeg 12) ≤ (1 : Int32) := hX.at1 12 ((v3).toNatClampNeg) 12
              exact ⟨by grind, by grind⟩
            exact ih (v3 + (1 : Int32)) v3 k1 pf37 pf40 pf43 hk
theorem s_X6_nextToDrop {A : Nat → Nat → Nat → Prop} {B : SS} (X : SS) (hX : IV A B X) : ok (f_X6_nextToDrop X) (fun r => ((-1) : Int32) ≤ r ∧ r ≤ (39 : Int32)) := by
  unfold f_X6_nextToDrop
  have pf1 : FU (0 : Int32) 40 1000 := by
    exact FU.start (by grind) (by decide)
  refine s_X6_nextToDrop_L4 X hX 1000 (0 : Int32) ((-1) : Int32) _ pf1 (show (0 : Int32) ≤ (0 : Int32) ∧ (0 : Int32) ≤ (40 : Int32) from ⟨by decide, by decide⟩) (show ((-1) : Int32) ≤ ((-1) : Int32) ∧ ((-1) : Int32) ≤ (39 : Int32) from ⟨by decide, by decide⟩) (fun v2 wv2 => ?_)
  have wv2 : ((-1) : Int32) ≤ v2 ∧ v2 ≤ (39 : Int32) := wv2
  have pf2 : ((-1) : Int32) ≤ v2 ∧ v2 ≤ (39 : Int32) := by
    exact ⟨by grind, by grind⟩
  exact ok_some pf2
theorem s_X6_dropBody_L12 {A : Nat → Nat → Nat → Prop} {B : SS} (X : SS) (hX : IV A B X) (i1 : Nat) (a1 : ∀ p, A 13 i1 p) (a2 : A 16 1 4) (a3 : A 16 1 5) (a4 : A 16 1 6) (a5 : A 16 1 7) (a6 : A 16 1 8) (a7 : ∀ p, A 17 1 p) (a8 : ∀ p, A 18 1 p) (a9 : ∀ p, A 19 1 p) (a10 : ∀ p, A 20 1 p) : ∀ (n : Nat), ∀ (v4 : Int32) (X5 : SS) (k2 : (SS → Option (SS × Unit))), (FU v4 5 n) → ((0 : Int32) ≤ v4 ∧ v4 ≤ (5 : Int32)) → (IV A B X5) → (∀ (k_0 : SS), (IV A B k_0) → ok (k2 k_0) (fun r => IV A B r.1 ∧ True)) → ok (f_X6_dropBody_L12 X i1 n v4 X5 k2) (fun r => IV A B r.1 ∧ True) := by
  intro n
  induction n with
  | zero =>
    intro v4 X5 k2 hF iv4 hX5 hk
    exact (FU.stop hF (show v4 ≤ (5 : Int32) by grind)).elim
  | succ n ih =>
    intro v4 X5 k2 hF iv4 hX5 hk
    rw [f_X6_dropBody_L12]
    refine ok_ite (fun q1 => ?_) (fun q1 => ?_)
    · exact hk X5 hX5
    · refine ok_gd ?_ (fun g2 => ?_)
      · have c3 : (0 : Int32) ≤ (X5.1 7 ((X.1 12 i1 8)).toNatClampNeg 1) ∧ (X5.1 7 ((X.1 12 i1 8)).toNatClampNeg 1) ≤ (5 : Int32) := hX5.at1 7 (((X.1 12 i1 8)).toNatClampNeg) 1
        have c4 : (0 : Int32) ≤ (X.1 12 i1 8) ∧ (X.1 12 i1 8) ≤ (7 : Int32) := hX.at1 12 i1 8
        exact vp_of (by decide) (by grind) (show v4 < (5 : Int32) by grind)
      have g2 := vp_to (by decide) g2
      have g2 : (0 : Int32) ≤ v4 ∧ v4 < (5 : Int32) := g2
      refine ok_b1 (s_X1_execute X5 hX5 1 (i1 + 1) (5 * ((X.1 12 i1 8)).toNatClampNeg + (v4).toNatClampNeg) (a2) (a3) (a4) (a5) (a6) (fun p => a7 p) (fun p => a8 p) (fun p => a9 p) (fun p => a10 p)) (fun X18 v17 w5 => ?_)
      have hX18 : IV A B X18 := w5.1
      have w6 : (33 : Int32) ≤ v17 ∧ v17 ≤ (122 : Int32) := w5.2
      refine ok_gd ?_ (fun g7 => ?_)
      · have c8 : (0 : Int32) ≤ (X5.1 7 ((X.1 12 i1 8)).toNatClampNeg 1) ∧ (X5.1 7 ((X.1 12 i1 8)).toNatClampNeg 1) ≤ (5 : Int32) := hX5.at1 7 (((X.1 12 i1 8)).toNatClampNeg) 1
        have c9 : (0 : Int32) ≤ (X.1 12 i1 8) ∧ (X.1 12 i1 8) ≤ (7 : Int32) := hX.at1 12 i1 8
        exact vp_of (by decide) (by grind) (show v4 < (5 : Int32) by grind)
      have g7 := vp_to (by decide) g7
      have g7 : (0 : Int32) ≤ v4 ∧ v4 < (5 : Int32) := g7
      refine ok_lq (fun X21 eq_10 => ?_)
      have hX21 : IV A B X21 := by rw [eq_10]; exact hX18.w1f rfl (a1 ((v4).toNatClampNeg)) rfl
      have pf11 : FU (v4 + (1 : Int32)) 5 n := by
        have c12 : (0 : Int32) ≤ (X5.1 7 ((X.1 12 i1 8)).toNatClampNeg 1) ∧ (X5.1 7 ((X.1 12 i1 8)).toNatClampNeg 1) ≤ (5 : Int32) := hX5.at1 7 (((X.1 12 i1 8)).toNatClampNeg) 1
        have c13 : (0 : Int32) ≤ (X.1 12 i1 8) ∧ (X.1 12 i1 8) ≤ (7 : Int32) := hX.at1 12 i1 8
        exact FU.step hF (by grind)
      have pf14 : (0 : Int32) ≤ (v4 + (1 : Int32)) ∧ (v4 + (1 : Int32)) ≤ (5 : Int32) := by
        have c15 : (0 : Int32) ≤ (X5.1 7 ((X.1 12 i1 8)).toNatClampNeg 1) ∧ (X5.1 7 ((X.1 12 i1 8)).toNatClampNeg 1) ≤ (5 : Int32) := hX5.at1 7 (((X.1 12 i1 8)).toNatClampNeg) 1
        have c16 : (0 : Int32) ≤ (X.1 12 i1 8) ∧ (X.1 12 i1 8) ≤ (7 : Int32) := hX.at1 12 i1 8
        exact ⟨by grind, by grind⟩
      exact ih (v4 + (1 : Int32)) X21 k2 pf11 pf14 hX21 hk
theorem s_X6_dropBody {A : Nat → Nat → Nat → Prop} {B : SS} (X : SS) (hX : IV A B X) (i1 : Nat) (a1 : ∀ j, 1 ≤ j → A 1 j 2) (a2 : A 12 i1 11) (a3 : A 12 i1 12) (a4 : A 12 i1 13) (a5 : A 12 i1 14) (a6 : ∀ p, A 13 i1 p) (a7 : A 16 1 4) (a8 : A 16 1 5) (a9 : A 16 1 6) (a10 : A 16 1 7) (a11 : A 16 1 8) (a12 : ∀ p, A 17 1 p) (a13 : ∀ p, A 18 1 p) (a14 : ∀ p, A 19 1 p) (a15 : ∀ p, A 20 1 p) : ok (f_X6_dropBody X i1) (fun r => IV A B r.1 ∧ True) := by
  unfold f_X6_dropBody
  refine ok_gd ?_ (fun g1 => ?_)
  · have c2 : (0 : Int32) ≤ (X.1 12 i1 8) ∧ (X.1 12 i1 8) ≤ (7 : Int32) := hX.at1 12 i1 8
    exact vp_of (by decide) (by grind) (show (X.1 12 i1 8) < (8 : Int32) by grind)
  have g1 := vp_to (by decide) g1
  have g1 : (0 : Int32) ≤ (X.1 12 i1 8) ∧ (X.1 12 i1 8) < (8 : Int32) := g1
  have pf3 : FU (0 : Int32) 5 1000 := by
    exact FU.start (by grind) (by decide)
  refine s_X6_dropBody_L12 X hX i1 (fun p => a6 p) (a7) (a8) (a9) (a10) (a11) (fun p => a12 p) (fun p => a13 p) (fun p => a14 p) (fun p => a15 p) 1000 (0 : Int32) X _ pf3 (show (0 : Int32) ≤ (0 : Int32) ∧ (0 : Int32) ≤ (5 : Int32) from ⟨by decide, by decide⟩) hX (fun X3 hX3 => ?_)
  refine ok_lq (fun X6 eq_4 => ?_)
  have pf5 : (0 : Int32) ≤ (X3.1 7 ((X.1 12 i1 8)).toNatClampNeg 1) ∧ (X3.1 7 ((X.1 12 i1 8)).toNatClampNeg 1) ≤ (5 : Int32) := by
    have c6 : (0 : Int32) ≤ (X3.1 7 ((X.1 12 i1 8)).toNatClampNeg 1) ∧ (X3.1 7 ((X.1 12 i1 8)).toNatClampNeg 1) ≤ (5 : Int32) := hX3.at1 7 (((X.1 12 i1 8)).toNatClampNeg) 1
    have c7 : (0 : Int32) ≤ (X.1 12 i1 8) ∧ (X.1 12 i1 8) ≤ (7 : Int32) := hX.at1 12 i1 8
    exact ⟨by grind, by grind⟩
  have hX6 : IV A B X6 := by rw [eq_4]; exact hX3.w1 rfl (a4) pf5
  refine ok_lq (fun X7 eq_8 => ?_)
  have hX7 : IV A B X7 := by rw [eq_8]; exact hX6.w1f rfl (a5) rfl
  refine ok_lq (fun X8 eq_9 => ?_)
  have hX8 : IV A B X8 := by rw [eq_9]; exact hX7.w1 rfl (a3) (show (0 : Int32) ≤ (0 : Int32) ∧ (0 : Int32) ≤ (1 : Int32) from ⟨by decide, by decide⟩)
  refine ok_b1 (s_X3_erase X8 hX8 (i1 + 1) (a1 (i1 + 1) (by omega))) (fun X10 v9 w10 => ?_)
  have hX10 : IV A B X10 := w10.1
  refine ok_ite (fun q11 => ?_) (fun q11 => ?_)
  · refine ok_lq (fun X14 eq_12 => ?_)
    have hX14 : IV A B X14 := by rw [eq_12]; exact hX10.w1 rfl (a2) (show (0 : Int32) ≤ (98 : Int32) ∧ (98 : Int32) ≤ (65535 : Int32) from ⟨by decide, by decide⟩)
    exact ok_some ⟨hX14, trivial⟩
  · refine ok_lq (fun X13 eq_13 => ?_)
    have hX13 : IV A B X13 := by rw [eq_13]; exact hX10.w1 rfl (a2) (show (0 : Int32) ≤ (112 : Int32) ∧ (112 : Int32) ≤ (65535 : Int32) from ⟨by decide, by decide⟩)
    exact ok_some ⟨hX13, trivial⟩
theorem s_X6_makeRoom_L12 {A : Nat → Nat → Nat → Prop} {B : SS} (a1 : ∀ j, 1 ≤ j → A 1 j 2) (a2 : ∀ j, A 12 j 11) (a3 : ∀ j, A 12 j 12) (a4 : ∀ j, A 12 j 13) (a5 : ∀ j, A 12 j 14) (a6 : ∀ j p, A 13 j p) (a7 : A 16 1 4) (a8 : A 16 1 5) (a9 : A 16 1 6) (a10 : A 16 1 7) (a11 : A 16 1 8) (a12 : ∀ p, A 17 1 p) (a13 : ∀ p, A 18 1 p) (a14 : ∀ p, A 19 1 p) (a15 : ∀ p, A 20 1 p) : ∀ (n : Nat), ∀ (v7 : Int32) (v8 : Int32) (X9 : SS) (k4 : (Int32 → SS → Option (SS × Int32))), (FZ v7 (n)) → (IV A B X9) → (∀ (k_0 : Int32) (k_1 : SS), (IV A B k_1) → ok (k4 k_0 k_1) (fun r => IV A B r.1 ∧ True)) → ok (f_X6_makeRoom_L12 n v7 v8 X9 k4) (fun r => IV A B r.1 ∧ True) := by
  intro n
  induction n with
  | zero =>
    intro v7 v8 X9 k4 hF hX9 hk
    exact (show False by unfold FZ at hF; omega).elim
  | succ n ih =>
    intro v7 v8 X9 k4 hF hX9 hk
    rw [f_X6_makeRoom_L12]
    refine ok_ite (fun q1 => ?_) (fun q1 => ?_)
    · exact hk v8 X9 hX9
    · refine ok_b0 (s_X6_nextToDrop X9 hX9) (fun v11 w2 => ?_)
      have w3 : ((-1) : Int32) ≤ v11 ∧ v11 ≤ (39 : Int32) := w2
      refine ok_ite (fun q4 => ?_) (fun q4 => ?_)
      · have pf5 : FZ (v7 + ((-1) : Int32)) (n) := by
          exact hF.step (by grind) (by grind)
        exact ih (v7 + ((-1) : Int32)) v8 X9 k4 pf5 hX9 hk
      · refine ok_gd ?_ (fun g6 => ?_)
        · exact vp_of (by decide) (by grind) (show v11 < (40 : Int32) by grind)
        have g6 := vp_to (by decide) g6
        have g6 : (0 : Int32) ≤ v11 ∧ v11 < (40 : Int32) := g6
        refine ok_b1 (s_X6_dropBody X9 hX9 (v11).toNatClampNeg a1 (a2 ((v11).toNatClampNeg)) (a3 ((v11).toNatClampNeg)) (a4 ((v11).toNatClampNeg)) (a5 ((v11).toNatClampNeg)) (fun p => a6 ((v11).toNatClampNeg) p) (a7) (a8) (a9) (a10) (a11) (fun p => a12 p) (fun p => a13 p) (fun p => a14 p) (fun p => a15 p)) (fun X16 v15 w7 => ?_)
        have hX16 : IV A B X16 := w7.1
        have pf8 : FZ (v7 + ((-1) : Int32)) (n) := by
          exact hF.step (by grind) (by grind)
        exact ih (v7 + ((-1) : Int32)) (v8 + (1 : Int32)) X16 k4 pf8 hX16 hk
theorem s_X6_makeRoom {A : Nat → Nat → Nat → Prop} {B : SS} (X : SS) (hX : IV A B X) (a1 : ∀ j, 1 ≤ j → A 1 j 2) (a2 : ∀ j, A 12 j 11) (a3 : ∀ j, A 12 j 12) (a4 : ∀ j, A 12 j 13) (a5 : ∀ j, A 12 j 14) (a6 : ∀ j p, A 13 j p) (a7 : A 16 1 4) (a8 : A 16 1 5) (a9 : A 16 1 6) (a10 : A 16 1 7) (a11 : A 16 1 8) (a12 : ∀ p, A 17 1 p) (a13 : ∀ p, A 18 1 p) (a14 : ∀ p, A 19 1 p) (a15 : ∀ p, A 20 1 p) : ok (f_X6_makeRoom X) (fun r => IV A B r.1 ∧ True) := by
  unfold f_X6_makeRoom
  refine ok_b0 (s_X6_bodyCount X hX) (fun v1 w1 => ?_)
  have w2 : ((0 : Int32) ≤ v1 ∧ v1 ≤ (40 : Int32)) := w1
  refine ok_lq (fun v3 eq_3 => ?_)
  have pf4 : FZ v3 (1000) := by
    have c5 : (0 : Int32) ≤ (X.1 0 0 13) ∧ (X.1 0 0 13) ≤ (40 : Int32) := hX.at1 0 0 13
    exact FZ.start (by grind)
  refine s_X6_makeRoom_L12 a1 a2 a3 a4 a5 a6 (a7) (a8) (a9) (a10) (a11) (fun p => a12 p) (fun p => a13 p) (fun p => a14 p) (fun p => a15 p) 1000 v3 (0 : Int32) X _ pf4 hX (fun v5 X6 hX6 => ?_)
  exact ok_some ⟨hX6, trivial⟩
theorem s_X6_submit {A : Nat → Nat → Nat → Prop} {B : SS} (X : SS) (hX : IV A B X) (p0 : Int32) (p1 : Int32) (a1 : A 0 0 11) (a2 : ∀ j, 1 ≤ j → A 1 j 2) (a3 : ∀ j, A 112 j 10) (a4 : ∀ j, A 12 j 11) (a5 : ∀ j, A 12 j 12) (a6 : ∀ j, A 12 j 13) (a7 : ∀ j, A 12 j 14) (a8 : ∀ j, A 12 j 7) (a9 : ∀ j, A 12 j 8) (a10 : ∀ j, A 12 j 9) (a11 : ∀ j p, A 13 j p) (a12 : A 16 1 4) (a13 : A 16 1 5) (a14 : A 16 1 6) (a15 : A 16 1 7) (a16 : A 16 1 8) (a17 : ∀ p, A 17 1 p) (a18 : ∀ p, A 18 1 p) (a19 : ∀ p, A 19 1 p) (a20 : ∀ j p, 1 ≤ j → A 2 j p) (a21 : ∀ p, A 20 1 p) (a22 : ∀ j p, 1 ≤ j → A 3 j p) : ok (f_X6_submit X p0 p1) (fun r => IV A B r.1 ∧ se (fun v => ((-1) : Int32) ≤ v ∧ v ≤ (39 : Int32)) (fun E => E = "java/lang/IllegalStateException" ∨ E = "java/lang/IndexOutOfBoundsException" ∨ E = "java/lang/UnsupportedOperationException") r.2) := by
  unfold f_X6_submit
  refine ok_e0 (s_X6_memberAt X hX p0) (fun i1 w1 => ?_) (fun E4 w1 => ?_)
  · have ni1 : i1 < 10 := w1.1
    have w2 : ((0 : Int32) ≤ p0 ∧ p0 < (X.1 0 0 10)) := w1.2
    refine ok_e0 (s_X6_kataAt X hX p1) (fun i7 w3 => ?_) (fun E10 w3 => ?_)
    · have w4 : ((0 : Int32) ≤ p1 ∧ p1 < (X.1 0 0 9)) := w3
      refine ok_b0 (s_X3_isWhole X hX 0) (fun v13 w5 => ?_)
      have w6 : (0 : Int32) ≤ v13 ∧ v13 ≤ (1 : Int32) := w5
      refine ok_ite (fun q7 => ?_) (fun q7 => ?_)
      · have pf8 : "java/lang/UnsupportedOperationException" = "java/lang/IllegalStateException" ∨ "java/lang/UnsupportedOperationException" = "java/lang/IndexOutOfBoundsException" ∨ "java/lang/UnsupportedOperationException" = "java/lang/UnsupportedOperationException" := by simp
        exact ok_some ⟨hX, pf8⟩
      · refine ok_ite (fun q9 => ?_) (fun q9 => ?_)
        · have pf10 : "java/lang/UnsupportedOperationException" = "java/lang/IllegalStateException" ∨ "java/lang/UnsupportedOperationException" = "java/lang/IndexOutOfBoundsException" ∨ "java/lang/UnsupportedOperationException" = "java/lang/UnsupportedOperationException" := by simp
          exact ok_some ⟨hX, pf10⟩
        · refine ok_ite (fun q11 => ?_) (fun q11 => ?_)
          · have f12 := ok_and (s_X6_passesAll X hX 0 i7 (a12) (a13) (a14) (a15) (a16) (fun p => a17 p) (fun p => a18 p) (fun p => a19 p) (fun p => a21 p)) (s_X6_passesAll (A := (fun k i p => (k = 16 ∧ p = 4) ∨ (k = 16 ∧ p = 5) ∨ (k = 16 ∧ p = 6) ∨ (k = 16 ∧ p = 7) ∨ (k = 16 ∧ p = 8) ∨ (k = 17) ∨ (k = 18) ∨ (k = 19) ∨ (k = 20))) (B := X) X hX.self 0 i7 (by simp) (by simp) (by simp) (by simp) (by simp) (by simp) (by simp) (by simp) (by simp))
            refine ok_b1 f12 (fun X19 v18 w13 => ?_)
            have w13a := w13.1
            have w13f : IV (fun k i p => (k = 16 ∧ p = 4) ∨ (k = 16 ∧ p = 5) ∨ (k = 16 ∧ p = 6) ∨ (k = 16 ∧ p = 7) ∨ (k = 16 ∧ p = 8) ∨ (k = 17) ∨ (k = 18) ∨ (k = 19) ∨ (k = 20)) X X19 := w13.2.1
            have hX19 : IV A B X19 := w13a.1
            have w14 : (0 : Int32) ≤ v18 ∧ v18 ≤ (1 : Int32) := w13a.2
            refine ok_ite (fun q15 => ?_) (fun q15 => ?_)
            · have pf16 : ((-1) : Int32) ≤ ((-1) : Int32) ∧ ((-1) : Int32) ≤ (39 : Int32) := by
                exact ⟨by grind, by grind⟩
              exact ok_some ⟨hX19, pf16⟩
            · refine ok_lq (fun v22 eq_17 => ?_)
              refine ok_lq (fun X23 eq_18 => ?_)
              have pf19 : (0 : Int32) ≤ ((X19.1 0 0 11) + (1 : Int32)) ∧ ((X19.1 0 0 11) + (1 : Int32)) ≤ (40 : Int32) := by
                have c20 : (0 : Int32) ≤ (X19.1 0 0 11) ∧ (X19.1 0 0 11) ≤ (40 : Int32) := hX19.at1 0 0 11
                have c21 : (X19.1 0 0 11) = (X.1 0 0 11) := w13f.same (by simp)
                have c22 : (0 : Int32) ≤ (X.1 0 0 11) ∧ (X.1 0 0 11) ≤ (40 : Int32) := hX.at1 0 0 11
                exact ⟨by grind, by grind⟩
              have hX23 : IV A B X23 := by rw [eq_18]; exact hX19.w1 rfl (a1) pf19
              refine ok_gd ?_ (fun g23 => ?_)
              · have c24 : (0 : Int32) ≤ (X19.1 0 0 11) ∧ (X19.1 0 0 11) ≤ (40 : Int32) := hX19.at1 0 0 11
                have c25 : (X19.1 0 0 11) = (X.1 0 0 11) := w13f.same (by simp)
                have c26 : (0 : Int32) ≤ (X.1 0 0 11) ∧ (X.1 0 0 11) ≤ (40 : Int32) := hX.at1 0 0 11
                exact vp_of (by decide) (by grind) (show v22 < (40 : Int32) by grind)
              have g23 := vp_to (by decide) g23
              have g23 : (0 : Int32) ≤ v22 ∧ v22 < (40 : Int32) := g23
              have pf27 : (0 : Int32) ≤ p0 ∧ p0 ≤ (9 : Int32) := by
                have c28 : (0 : Int32) ≤ (X.1 0 0 10) ∧ (X.1 0 0 10) ≤ (10 : Int32) := hX.at1 0 0 10
                exact ⟨by grind, by grind⟩
              have pf29 : (0 : Int32) ≤ p1 ∧ p1 ≤ (7 : Int32) := by
                have c30 : (0 : Int32) ≤ (X.1 0 0 9) ∧ (X.1 0 0 9) ≤ (8 : Int32) := hX.at1 0 0 9
                exact ⟨by grind, by grind⟩
              refine ok_b1 (s_X5_begin X23 hX23 (v22).toNatClampNeg p0 pf27 p1 pf29 0 a2 (a3 ((v22).toNatClampNeg)) (a4 ((v22).toNatClampNeg)) (a5 ((v22).toNatClampNeg)) (a8 ((v22).toNatClampNeg)) (a9 ((v22).toNatClampNeg)) (a10 ((v22).toNatClampNeg)) a20 a22) (fun X26 v25 w31 => ?_)
              have hX26 : IV A B X26 := w31.1
              refine ok_b1 (s_X6_makeRoom X26 hX26 a2 a4 a5 a6 a7 a11 (a12) (a13) (a14) (a15) (a16) (fun p => a17 p) (fun p => a18 p) (fun p => a19 p) (fun p => a21 p)) (fun X29 v28 w32 => ?_)
              have hX29 : IV A B X29 := w32.1
              have pf33 : ((-1) : Int32) ≤ v22 ∧ v22 ≤ (39 : Int32) := by
                have c34 : (0 : Int32) ≤ (X19.1 0 0 11) ∧ (X19.1 0 0 11) ≤ (40 : Int32) := hX19.at1 0 0 11
                have c35 : (X19.1 0 0 11) = (X.1 0 0 11) := w13f.same (by simp)
                have c36 : (0 : Int32) ≤ (X.1 0 0 11) ∧ (X.1 0 0 11) ≤ (40 : Int32) := hX.at1 0 0 11
                exact ⟨by grind, by grind⟩
              exact ok_some ⟨hX29, pf33⟩
          · have pf37 : "java/lang/IllegalStateException" = "java/lang/IllegalStateException" ∨ "java/lang/IllegalStateException" = "java/lang/IndexOutOfBoundsException" ∨ "java/lang/IllegalStateException" = "java/lang/UnsupportedOperationException" := by simp
            exact ok_some ⟨hX, pf37⟩
    · have w38 : E10 = "java/lang/IndexOutOfBoundsException" := w3
      have pf39 : E10 = "java/lang/IllegalStateException" ∨ E10 = "java/lang/IndexOutOfBoundsException" ∨ E10 = "java/lang/UnsupportedOperationException" := by grind
      exact ok_some ⟨hX, pf39⟩
  · have w40 : E4 = "java/lang/IndexOutOfBoundsException" := w1
    have pf41 : E4 = "java/lang/IllegalStateException" ∨ E4 = "java/lang/IndexOutOfBoundsException" ∨ E4 = "java/lang/UnsupportedOperationException" := by grind
    exact ok_some ⟨hX, pf41⟩
theorem s_X6_works {A : Nat → Nat → Nat → Prop} {B : SS} (X : SS) (hX : IV A B X) : ok (f_X6_works X) (fun r => (0 : Int32) ≤ r ∧ r ≤ (40 : Int32)) := by
  unfold f_X6_works
  have pf1 : (0 : Int32) ≤ (X.1 0 0 11) ∧ (X.1 0 0 11) ≤ (40 : Int32) := by
    have c2 : (0 : Int32) ≤ (X.1 0 0 11) ∧ (X.1 0 0 11) ≤ (40 : Int32) := hX.at1 0 0 11
    exact ⟨by grind, by grind⟩
  exact ok_some pf1