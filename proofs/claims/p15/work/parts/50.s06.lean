theorem s_X7_loses {A : Nat → Nat → Nat → Prop} {B : SS} (M : SS) (hM : IV A B M) (p0 : Int32) (ip0 : (0 : Int32) ≤ p0 ∧ p0 ≤ (39 : Int32)) (p1 : Int32) (ip1 : (98 : Int32) ≤ p1 ∧ p1 ≤ (112 : Int32)) (a1 : A 26 0 38) (a2 : A 26 0 39) (a3 : A 26 0 40) (a4 : A 42 0 (p0).toNatClampNeg) (a5 : A 43 0 (p0).toNatClampNeg) (a6 : ∀ p, A 44 0 p) (a7 : ∀ p, A 45 0 p) (a8 : ∀ p, A 53 0 p) (a9 : ∀ p, A 54 0 p) : ok (f_X7_loses M p0 p1) (fun r => IV A B r.1 ∧ ((r.1.1 43 0 (p0).toNatClampNeg) = 0)) := by
  unfold f_X7_loses
  refine ok_gd ?_ (fun g1 => ?_)
  · exact vp_of (by decide) (by grind) (show p0 < (40 : Int32) by grind)
  have g1 := vp_to (by decide) g1
  have g1 : (0 : Int32) ≤ p0 ∧ p0 < (40 : Int32) := g1
  refine ok_lq (fun v2 e2 => ?_)
  have p3 : (0 : Int32) ≤ p0 ∧ p0 ≤ (39 : Int32) := by
    exact ⟨by grind, by grind⟩
  have p4 : (0 : Int32) ≤ v2 ∧ v2 ≤ (7 : Int32) := by
    have c5 : (0 : Int32) ≤ (M.1 40 0 (p0).toNatClampNeg) ∧ (M.1 40 0 (p0).toNatClampNeg) ≤ (7 : Int32) := hM.at1 40 0 ((p0).toNatClampNeg)
    exact ⟨by grind, by grind⟩
  have p6 : FU (0 : Int32) 5 1000 := by
    exact FU.start (by grind) (by decide)
  refine s_X7_loses_L10 p0 p3 v2 p4 (a1) (a2) (a3) (fun p => a6 p) (fun p => a7 p) (fun p => a8 p) (fun p => a9 p) 1000 (0 : Int32) M _ p6 ⟨by decide, by decide⟩ hM (fun M4 hM4 => ?_)
  refine ok_gd ?_ (fun g7 => ?_)
  · exact vp_of (by decide) (by grind) (show p0 < (40 : Int32) by grind)
  have g7 := vp_to (by decide) g7
  have g7 : (0 : Int32) ≤ p0 ∧ p0 < (40 : Int32) := g7
  refine ok_lq (fun M8 e8 => ?_)
  have p9 : (0 : Int32) ≤ (vp_nar .boolean (0 : Int32)) ∧ (vp_nar .boolean (0 : Int32)) ≤ (1 : Int32) := by
    have c10 : (0 : Int32) ≤ (vp_nar .boolean (0 : Int32)) ∧ (vp_nar .boolean (0 : Int32)) ≤ (1 : Int32) := ⟨by decide, by decide⟩
    exact ⟨by grind, by grind⟩
  have hM8 : IV A B M8 := by rw [e8]; exact hM4.u1 rfl (a5) p9
  refine ok_gd ?_ (fun g11 => ?_)
  · exact vp_of (by decide) (by grind) (show p0 < (40 : Int32) by grind)
  have g11 := vp_to (by decide) g11
  have g11 : (0 : Int32) ≤ p0 ∧ p0 < (40 : Int32) := g11
  refine ok_lq (fun M10 e12 => ?_)
  have p13 : (0 : Int32) ≤ (vp_nar .char p1) ∧ (vp_nar .char p1) ≤ (65535 : Int32) := by
    have c14 : (0 : Int32) ≤ (vp_nar .char p1) ∧ (vp_nar .char p1) ≤ (65535 : Int32) := nar_c _
    exact ⟨by grind, by grind⟩
  have hM10 : IV A B M10 := by rw [e12]; exact hM8.u1 rfl (a4) p13
  have p15 : ((M10.1 43 0 (p0).toNatClampNeg) = 0) := by
    have c16 : (0 : Int32) ≤ (vp_nar .char p1) ∧ (vp_nar .char p1) ≤ (65535 : Int32) := nar_c _
    have c17 : (0 : Int32) ≤ (M10.1 43 0 (p0).toNatClampNeg) ∧ (M10.1 43 0 (p0).toNatClampNeg) ≤ (1 : Int32) := hM10.at1 43 0 ((p0).toNatClampNeg)
    have c18 : (M10.1 43 0 (p0).toNatClampNeg) = (M8.1 43 0 (p0).toNatClampNeg) := by rw [e12]; exact up_k (by decide)
    have c19 : (0 : Int32) ≤ (M8.1 43 0 (p0).toNatClampNeg) ∧ (M8.1 43 0 (p0).toNatClampNeg) ≤ (1 : Int32) := hM8.at1 43 0 ((p0).toNatClampNeg)
    have c20 : (M8.1 43 0 (p0).toNatClampNeg) = (vp_nar .boolean (0 : Int32)) := by rw [e8]; exact up_s
    grind
  exact ok_some ⟨hM10, p15⟩
theorem s_X7_drops {A : Nat → Nat → Nat → Prop} {B : SS} (M : SS) (hM : IV A B M) (p0 : Int32) (ip0 : (0 : Int32) ≤ p0 ∧ p0 ≤ (39 : Int32)) (a1 : A 26 0 38) (a2 : A 26 0 39) (a3 : A 26 0 40) (a4 : A 42 0 (p0).toNatClampNeg) (a5 : A 43 0 (p0).toNatClampNeg) (a6 : ∀ p, A 44 0 p) (a7 : ∀ p, A 45 0 p) (a8 : ∀ p, A 53 0 p) (a9 : ∀ p, A 54 0 p) : ok (f_X7_drops M p0) (fun r => IV A B r.1 ∧ ((r.1.1 43 0 (p0).toNatClampNeg) = 0)) := by
  unfold f_X7_drops
  refine ok_gd ?_ (fun g1 => ?_)
  · exact vp_of (by decide) (by grind) (show p0 < (40 : Int32) by grind)
  have g1 := vp_to (by decide) g1
  have g1 : (0 : Int32) ≤ p0 ∧ p0 < (40 : Int32) := g1
  refine ok_ite (fun q2 => ?_) (fun q2 => ?_)
  · have p3 : (0 : Int32) ≤ p0 ∧ p0 ≤ (39 : Int32) := by
      have c4 : (0 : Int32) ≤ (M.1 42 0 (p0).toNatClampNeg) ∧ (M.1 42 0 (p0).toNatClampNeg) ≤ (65535 : Int32) := hM.at1 42 0 ((p0).toNatClampNeg)
      exact ⟨by grind, by grind⟩
    refine ok_b1 (s_X7_loses M hM p0 p3 (98 : Int32) ⟨by decide, by decide⟩ (a1) (a2) (a3) (a4) (a5) (fun p => a6 p) (fun p => a7 p) (fun p => a8 p) (fun p => a9 p)) (fun M7 v6 w5 => ?_)
    have hM7 : IV A B M7 := w5.1
    have w6 : ((M7.1 43 0 (p0).toNatClampNeg) = 0) := w5.2
    have p7 : ((M7.1 43 0 (p0).toNatClampNeg) = 0) := by
      have c8 : (0 : Int32) ≤ (M7.1 43 0 (p0).toNatClampNeg) ∧ (M7.1 43 0 (p0).toNatClampNeg) ≤ (1 : Int32) := hM7.at1 43 0 ((p0).toNatClampNeg)
      have c9 : (0 : Int32) ≤ (M.1 42 0 (p0).toNatClampNeg) ∧ (M.1 42 0 (p0).toNatClampNeg) ≤ (65535 : Int32) := hM.at1 42 0 ((p0).toNatClampNeg)
      grind
    exact ok_some ⟨hM7, p7⟩
  · have p10 : (0 : Int32) ≤ p0 ∧ p0 ≤ (39 : Int32) := by
      have c11 : (0 : Int32) ≤ (M.1 42 0 (p0).toNatClampNeg) ∧ (M.1 42 0 (p0).toNatClampNeg) ≤ (65535 : Int32) := hM.at1 42 0 ((p0).toNatClampNeg)
      exact ⟨by grind, by grind⟩
    refine ok_b1 (s_X7_loses M hM p0 p10 (112 : Int32) ⟨by decide, by decide⟩ (a1) (a2) (a3) (a4) (a5) (fun p => a6 p) (fun p => a7 p) (fun p => a8 p) (fun p => a9 p)) (fun M4 v3 w12 => ?_)
    have hM4 : IV A B M4 := w12.1
    have w13 : ((M4.1 43 0 (p0).toNatClampNeg) = 0) := w12.2
    have p14 : ((M4.1 43 0 (p0).toNatClampNeg) = 0) := by
      have c15 : (0 : Int32) ≤ (M4.1 43 0 (p0).toNatClampNeg) ∧ (M4.1 43 0 (p0).toNatClampNeg) ≤ (1 : Int32) := hM4.at1 43 0 ((p0).toNatClampNeg)
      have c16 : (0 : Int32) ≤ (M.1 42 0 (p0).toNatClampNeg) ∧ (M.1 42 0 (p0).toNatClampNeg) ≤ (65535 : Int32) := hM.at1 42 0 ((p0).toNatClampNeg)
      grind
    exact ok_some ⟨hM4, p14⟩
theorem s_X7_makesRoom_L17 {A : Nat → Nat → Nat → Prop} {B : SS} (M5 : SS) (hM5 : IV A B M5) : ∀ (n : Nat), ∀ (v11 : Int32) (v12 : Int32) (k9 : (Int32 → Option (SS × Int32))), (FU v11 40 n) → ((0 : Int32) ≤ v11 ∧ v11 ≤ (40 : Int32)) → (((-1) : Int32) ≤ v12 ∧ v12 ≤ (39 : Int32)) → (∀ (k_0 : Int32), (((-1) : Int32) ≤ k_0 ∧ k_0 ≤ (39 : Int32)) → ok (k9 k_0) (fun r => IV A B r.1 ∧ True)) → ok (f_X7_makesRoom_L17 M5 n v11 v12 k9) (fun r => IV A B r.1 ∧ True) := sorry
theorem bc_L4 {M : SS} (hw : (0 : Int32) ≤ M.1 26 0 5 ∧ M.1 26 0 5 ≤ (40 : Int32)) : ∀ (n : Nat) (v3 v4 : Int32) (k : Int32 → Option Int32), FU v3 40 n → 0 ≤ v3 → v3 ≤ M.1 26 0 5 → v4 = nI (nb M v3.toNatClampNeg) → f_X7_bodyCount_L4 M n v3 v4 k = k (nI (nb M (M.1 26 0 5).toNatClampNeg)) := by
  intro n
  induction n with
  | zero => intro v3 v4 k hF h0 h1 hv; exact (FU.stop hF (show v3 ≤ (40 : Int32) by grind)).elim
  | succ n ih =>
    intro v3 v4 k hF h0 h1 hv
    rw [f_X7_bodyCount_L4]
    by_cases c : M.1 26 0 5 ≤ v3
    · rw [if_pos c, hv, show v3 = M.1 26 0 5 by grind]
    · have e := cl_succ h0 (show v3 < 1000 by grind)
      have hb := nb_le M v3.toNatClampNeg
      have hc := cl_le (n := 40) (show v3 ≤ (40 : Int32) by grind) (by decide)
      rw [if_neg c, gd_t (vp_of (by decide) h0 (show v3 < (40 : Int32) by grind))]
      by_cases z : M.1 43 0 v3.toNatClampNeg = 0
      · rw [if_pos z]
        show f_X7_bodyCount_L4 M n (v3 + 1) (v4 + 0) k = _
        refine ih _ _ k (hF.step (by grind)) (by grind) (by grind) ?_
        rw [e, hv]
        unfold nb
        rw [if_pos z, show (0 : Int32) = nI 0 from rfl, nI_add]
      · rw [if_neg z]
        show f_X7_bodyCount_L4 M n (v3 + 1) (v4 + 1) k = _
        refine ih _ _ k (hF.step (by grind)) (by grind) (by grind) ?_
        rw [e, hv]
        show nI (nb M v3.toNatClampNeg) + 1 = nI (nb M (v3.toNatClampNeg + 1))
        rw [nI_1]
        conv => rhs; unfold nb
        rw [if_neg z]
theorem bc_all {M : SS} (hw : (0 : Int32) ≤ M.1 26 0 5 ∧ M.1 26 0 5 ≤ (40 : Int32)) : f_X7_bodyCount M = some (nI (nb M (M.1 26 0 5).toNatClampNeg)) := by
  unfold f_X7_bodyCount
  exact bc_L4 hw 1000 0 0 _ (FU.start (by decide) (by decide)) (by decide) hw.1 (by rw [show ((0 : Int32)).toNatClampNeg = 0 from rfl]; rfl)
def MRI (M : SS) (v w : Int32) : Prop := (w = -1 ∧ nb M v.toNatClampNeg = 0) ∨ (0 ≤ w ∧ w < M.1 26 0 5 ∧ ¬ M.1 43 0 w.toNatClampNeg = 0)
theorem mr_L17 {A : Nat → Nat → Nat → Prop} {B M : SS} {P : SS × Int32 → Prop} (hM : IV A B M) : ∀ (n : Nat) (v w : Int32) (k : Int32 → Option (SS × Int32)), FU v 40 n → 0 ≤ v → v ≤ M.1 26 0 5 → MRI M v w → (∀ u, MRI M (M.1 26 0 5) u → ok (k u) P) → ok (f_X7_makesRoom_L17 M n v w k) P := by
  have hw : (0 : Int32) ≤ M.1 26 0 5 ∧ M.1 26 0 5 ≤ (40 : Int32) := hM.at1 26 0 5
  intro n
  induction n with
  | zero => intro v w k hF h0 h1 hi hk; exact (FU.stop hF (show v ≤ (40 : Int32) by grind)).elim
  | succ n ih =>
    intro v w k hF h0 h1 hi hk
    rw [f_X7_makesRoom_L17]
    refine ok_ite (fun c => ?_) (fun c => ?_)
    · have e : v = M.1 26 0 5 := by grind
      rw [e] at hi
      exact hk w hi
    · have e := cl_succ h0 (show v < 1000 by grind)
      refine ok_gd (vp_of (by decide) h0 (show v < (40 : Int32) by grind)) (fun g => ?_)
      have hself : ¬ M.1 43 0 v.toNatClampNeg = 0 → MRI M (v + 1) v := fun z => Or.inr ⟨h0, by grind, z⟩
      refine ok_ite (fun z => ?_) (fun z => ?_)
      · refine ih _ _ k (hF.step (by grind)) (by grind) (by grind) ?_ hk
        rcases hi with ⟨hi1, hi2⟩ | hi
        · refine Or.inl ⟨hi1, ?_⟩
          rw [e]
          unfold nb
          rw [if_pos z, hi2]
        · exact Or.inr hi
      · refine ok_ite (fun c2 => ih _ _ k (hF.step (by grind)) (by grind) (by grind) (hself z) hk) (fun c2 => ?_)
        rcases hi with hi | hi
        · exact absurd hi.1 c2
        · refine ok_b0 (s_X7_isWorse M hM v ⟨h0, by grind⟩ w ⟨hi.1, by grind⟩) (fun v20 w20 => ?_)
          exact ok_ite (fun c3 => ih _ _ k (hF.step (by grind)) (by grind) (by grind) (Or.inr hi) hk) (fun c3 => ih _ _ k (hF.step (by grind)) (by grind) (by grind) (hself z) hk)
theorem s_X7_makesRoom_L2 {A : Nat → Nat → Nat → Prop} {B : SS} (a1 : A 26 0 38) (a2 : A 26 0 39) (a3 : A 26 0 40) (a4 : ∀ p, A 42 0 p) (a5 : ∀ p, A 43 0 p) (a6 : ∀ p, A 44 0 p) (a7 : ∀ p, A 45 0 p) (a8 : ∀ p, A 53 0 p) (a9 : ∀ p, A 54 0 p) : ∀ (n : Nat), ∀ (v4 : Int32) (M5 : SS) (k1 : (Int32 → SS → Option (SS × Int32))), (((nb M5 (M5.1 26 0 5).toNatClampNeg : Nat) : Int) + 1 ≤ (n : Nat)) → (IV A B M5) → (∀ (k_0 : Int32) (k_1 : SS), (IV A B k_1) → ok (k1 k_0 k_1) (fun r => IV A B r.1 ∧ True)) → ok (f_X7_makesRoom_L2 n v4 M5 k1) (fun r => IV A B r.1 ∧ True) := by
  intro n
  induction n with
  | zero => intro v4 M5 k1 hF; omega
  | succ n ih =>
    intro v4 M5 k1 hF hM5 hk
    rw [f_X7_makesRoom_L2]
    have hw : (0 : Int32) ≤ M5.1 26 0 5 ∧ M5.1 26 0 5 ≤ (40 : Int32) := hM5.at1 26 0 5
    have hr : (0 : Int32) ≤ M5.1 26 0 6 ∧ M5.1 26 0 6 ≤ (40 : Int32) := hM5.at1 26 0 6
    rw [bc_all hw]
    refine ok_b0 ⟨_, rfl, rfl⟩ (fun v6 w6 => ?_)
    refine ok_ite (fun q => hk v4 M5 hM5) (fun q => ?_)
    have hpos : nb M5 (M5.1 26 0 5).toNatClampNeg ≠ 0 := by
      intro z
      rw [z] at w6
      apply q
      rw [w6]
      exact hr.1
    refine mr_L17 hM5 1000 0 (-1) _ (FU.start (by decide) (by decide)) (by decide) hw.1 (Or.inl ⟨rfl, rfl⟩) (fun v10 hv => ?_)
    rcases hv with ⟨-, hz⟩ | ⟨h0, hlt, hb⟩
    · exact absurd hz hpos
    · have d1 := s_X7_drops M5 hM5 v10 ⟨h0, by grind⟩ (a1) (a2) (a3) (a4 ((v10).toNatClampNeg)) (a5 ((v10).toNatClampNeg)) (fun p => a6 p) (fun p => a7 p) (fun p => a8 p) (fun p => a9 p)
      have d2 := s_X7_drops (A := (fun k _ p => (k = 26 ∧ p = 38) ∨ (k = 26 ∧ p = 39) ∨ (k = 26 ∧ p = 40) ∨ (k = 42 ∧ p = (v10).toNatClampNeg) ∨ (k = 43 ∧ p = (v10).toNatClampNeg) ∨ (k = 44) ∨ (k = 45) ∨ (k = 53) ∨ (k = 54))) (B := M5) M5 hM5.self v10 ⟨h0, by grind⟩ (by simp) (by simp) (by simp) (by simp) (by simp) (by simp) (by simp) (by simp) (by simp)
      refine ok_b1 (ok_and d1 d2) (fun M14 v13 w => ?_)
      have hz : M14.1 43 0 v10.toNatClampNeg = 0 := w.1.2
      have h5 : M14.1 26 0 5 = M5.1 26 0 5 := w.2.1.same (by simp)
      have h43 : ∀ i, i ≠ v10.toNatClampNeg → M14.1 43 0 i = M5.1 43 0 i := fun i hi => w.2.1.same (by simp [hi])
      have hj : v10.toNatClampNeg < (M5.1 26 0 5).toNatClampNeg := by
        have e1 := cl_nI (v := v10) h0
        have e2 := cl_nI (v := M5.1 26 0 5) hw.1
        have l1 := cl_le (n := 40) (v := v10) (show v10 ≤ (40 : Int32) by grind) (by decide)
        have l2 := cl_le (n := 40) (v := M5.1 26 0 5) hw.2 (by decide)
        rw [← e1, ← e2, nI_ltI (by omega) (by omega)] at hlt
        exact hlt
      have hd := nb_drop (M := M5) (M2 := M14) hj hb hz (fun i hi => by rw [h43 i hi])
      refine ih _ M14 k1 ?_ w.1.1 hk
      rw [h5]
      omega
theorem s_X7_makesRoom {A : Nat → Nat → Nat → Prop} {B : SS} (M : SS) (hM : IV A B M) (a1 : A 26 0 38) (a2 : A 26 0 39) (a3 : A 26 0 40) (a4 : ∀ p, A 42 0 p) (a5 : ∀ p, A 43 0 p) (a6 : ∀ p, A 44 0 p) (a7 : ∀ p, A 45 0 p) (a8 : ∀ p, A 53 0 p) (a9 : ∀ p, A 54 0 p) : ok (f_X7_makesRoom M) (fun r => IV A B r.1 ∧ True) := by
  unfold f_X7_makesRoom
  have p1 : ((nb M (M.1 26 0 5).toNatClampNeg : Nat) : Int) + 1 ≤ (1000 : Nat) := by
    have c2 : (0 : Int32) ≤ (M.1 26 0 5) ∧ (M.1 26 0 5) ≤ (40 : Int32) := hM.at1 26 0 5
    have h5 := hM.at1 26 0 5; exact nb_start h5.2
  refine s_X7_makesRoom_L2 (a1) (a2) (a3) (fun p => a4 p) (fun p => a5 p) (fun p => a6 p) (fun p => a7 p) (fun p => a8 p) (fun p => a9 p) 1000 (0 : Int32) M _ p1 hM (fun v2 M3 hM3 => ?_)
  exact ok_some ⟨hM3, trivial⟩
theorem s_X7_submit {A : Nat → Nat → Nat → Prop} {B : SS} (M : SS) (hM : IV A B M) (p0 : Int32) (p1 : Int32) (a1 : ∀ p, A 141 0 p) (a2 : A 26 0 38) (a3 : A 26 0 39) (a4 : A 26 0 40) (a5 : A 26 0 5) (a6 : A 26 0 9) (a7 : ∀ p, A 27 0 p) (a8 : ∀ p, A 28 0 p) (a9 : ∀ p, A 29 0 p) (a10 : ∀ p, A 39 0 p) (a11 : ∀ p, A 40 0 p) (a12 : ∀ p, A 42 0 p) (a13 : ∀ p, A 43 0 p) (a14 : ∀ p, A 44 0 p) (a15 : ∀ p, A 45 0 p) (a16 : ∀ p, A 53 0 p) (a17 : ∀ p, A 54 0 p) : ok (f_X7_submit M p0 p1) (fun r => IV A B r.1 ∧ True) := by
  unfold f_X7_submit
  refine ok_b0 (s_X7_isMember M hM p0) (fun v1 w1 => ?_)
  have w2 : (0 : Int32) ≤ v1 ∧ v1 ≤ (1 : Int32) ∧ ((v1 = 0 ∧ (p0 < 0 ∨ (M.1 26 0 4) ≤ p0)) ∨ (v1 = 1 ∧ 0 ≤ p0 ∧ p0 < (M.1 26 0 4))) := w1
  refine ok_ite (fun q3 => ?_) (fun q3 => ?_)
  · refine ok_b1 (s_X7_fails M hM (1 : Int32) ⟨by decide, by decide⟩ (a6)) (fun M5 v4 w4 => ?_)
    have hM5 : IV A B M5 := w4.1
    have w5 : (0 : Int32) ≤ v4 ∧ v4 ≤ (0 : Int32) := w4.2
    exact ok_some ⟨hM5, trivial⟩
  · refine ok_b0 (s_X7_isKata M hM p1) (fun v7 w6 => ?_)
    have w7 : (0 : Int32) ≤ v7 ∧ v7 ≤ (1 : Int32) ∧ ((v7 = 0 ∧ (p1 < 0 ∨ (M.1 26 0 3) ≤ p1)) ∨ (v7 = 1 ∧ 0 ≤ p1 ∧ p1 < (M.1 26 0 3))) := w6
    refine ok_ite (fun q8 => ?_) (fun q8 => ?_)
    · refine ok_b1 (s_X7_fails M hM (1 : Int32) ⟨by decide, by decide⟩ (a6)) (fun M60 v59 w9 => ?_)
      have hM60 : IV A B M60 := w9.1
      have w10 : (0 : Int32) ≤ v59 ∧ v59 ≤ (0 : Int32) := w9.2
      exact ok_some ⟨hM60, trivial⟩
    · refine ok_b0 (s_X7_isWhole M hM (40 : Int32) ⟨by decide, by decide⟩) (fun v10 w11 => ?_)
      have w12 : (0 : Int32) ≤ v10 ∧ v10 ≤ (1 : Int32) := w11
      refine ok_ite (fun q13 => ?_) (fun q13 => ?_)
      · refine ok_b1 (s_X7_fails M hM (2 : Int32) ⟨by decide, by decide⟩ (a6)) (fun M14 v13 w14 => ?_)
        have hM14 : IV A B M14 := w14.1
        have w15 : (0 : Int32) ≤ v13 ∧ v13 ≤ (0 : Int32) := w14.2
        exact ok_some ⟨hM14, trivial⟩
      · refine ok_gd ?_ (fun g16 => ?_)
        · exact vp_of (by decide) (by grind) (show p1 < (8 : Int32) by grind)
        have g16 := vp_to (by decide) g16
        have g16 : (0 : Int32) ≤ p1 ∧ p1 < (8 : Int32) := g16
        refine ok_ite (fun q17 => ?_) (fun q17 => ?_)
        · refine ok_b1 (s_X7_fails M hM (2 : Int32) ⟨by decide, by decide⟩ (a6)) (fun M57 v56 w18 => ?_)
          have hM57 : IV A B M57 := w18.1
          have w19 : (0 : Int32) ≤ v56 ∧ v56 ≤ (0 : Int32) := w18.2
          exact ok_some ⟨hM57, trivial⟩
        · refine ok_ite (fun q20 => ?_) (fun q20 => ?_)
          · refine ok_b1 (s_X7_fails M hM (3 : Int32) ⟨by decide, by decide⟩ (a6)) (fun M54 v53 w21 => ?_)
            have hM54 : IV A B M54 := w21.1
            have w22 : (0 : Int32) ≤ v53 ∧ v53 ≤ (0 : Int32) := w21.2
            exact ok_some ⟨hM54, trivial⟩
          · have p23 : (0 : Int32) ≤ p1 ∧ p1 ≤ (7 : Int32) := by
              have c24 : (0 : Int32) ≤ (M.1 33 0 (p1).toNatClampNeg) ∧ (M.1 33 0 (p1).toNatClampNeg) ≤ (5 : Int32) := hM.at1 33 0 ((p1).toNatClampNeg)
              exact ⟨by grind, by grind⟩
            have f25 := ok_and (s_X7_passes M hM (40 : Int32) ⟨by decide, by decide⟩ p1 p23 (a2) (a3) (a4) (fun p => a16 p) (fun p => a17 p)) (s_X7_passes (A := (fun k i p => (k = 26 ∧ p = 38) ∨ (k = 26 ∧ p = 39) ∨ (k = 26 ∧ p = 40) ∨ (k = 53) ∨ (k = 54))) (B := M) M hM.self (40 : Int32) ⟨by decide, by decide⟩ p1 p23 (by simp) (by simp) (by simp) (by simp) (by simp))
            refine ok_b1 f25 (fun M20 v19 w26 => ?_)
            have w26a := w26.1
            have w26f : IV (fun k i p => (k = 26 ∧ p = 38) ∨ (k = 26 ∧ p = 39) ∨ (k = 26 ∧ p = 40) ∨ (k = 53) ∨ (k = 54)) M M20 := w26.2.1
            have hM20 : IV A B M20 := w26a.1
            have w27 : (0 : Int32) ≤ v19 ∧ v19 ≤ (1 : Int32) := w26a.2
            refine ok_ite (fun q28 => ?_) (fun q28 => ?_)
            · refine ok_b1 (s_X7_tells M20 hM20 ((-1) : Int32) (a6)) (fun M51 v50 w29 => ?_)
              have hM51 : IV A B M51 := w29.1
              exact ok_some ⟨hM51, trivial⟩
            · refine ok_lq (fun v23 e30 => ?_)
              have p31 : (0 : Int32) ≤ v23 ∧ v23 ≤ (39 : Int32) := by
                have c32 : (0 : Int32) ≤ (M20.1 26 0 5) ∧ (M20.1 26 0 5) ≤ (40 : Int32) := hM20.at1 26 0 5
                have c33 : (M20.1 26 0 5) = (M.1 26 0 5) := w26f.same (by simp)
                have c34 : (0 : Int32) ≤ (M.1 26 0 5) ∧ (M.1 26 0 5) ≤ (40 : Int32) := hM.at1 26 0 5
                exact ⟨by grind, by grind⟩
              refine ok_b1 (s_X7_copies M20 hM20 (40 : Int32) ⟨by decide, by decide⟩ v23 p31 (fun p => a7 p) (fun p => a8 p) (a9 ((v23).toNatClampNeg))) (fun M25 v24 w35 => ?_)
              have hM25 : IV A B M25 := w35.1
              refine ok_gd ?_ (fun g36 => ?_)
              · have c37 : (0 : Int32) ≤ (M20.1 26 0 5) ∧ (M20.1 26 0 5) ≤ (40 : Int32) := hM20.at1 26 0 5
                have c38 : (M20.1 26 0 5) = (M.1 26 0 5) := w26f.same (by simp)
                have c39 : (0 : Int32) ≤ (M.1 26 0 5) ∧ (M.1 26 0 5) ≤ (40 : Int32) := hM.at1 26 0 5
                exact vp_of (by decide) (by grind) (show v23 < (40 : Int32) by grind)
              have g36 := vp_to (by decide) g36
              have g36 : (0 : Int32) ≤ v23 ∧ v23 < (40 : Int32) := g36
              refine ok_lq (fun M28 e40 => ?_)
              have p41 : (0 : Int32) ≤ p0 ∧ p0 ≤ (9 : Int32) := by
                exact ⟨by grind, by grind⟩
              have hM28 : IV A B M28 := by rw [e40]; exact hM25.u1 rfl (a10 ((v23).toNatClampNeg)) p41
              refine ok_gd ?_ (fun g42 => ?_)
              · have c43 : (0 : Int32) ≤ (M20.1 26 0 5) ∧ (M20.1 26 0 5) ≤ (40 : Int32) := hM20.at1 26 0 5
                have c44 : (M20.1 26 0 5) = (M.1 26 0 5) := w26f.same (by simp)
                have c45 : (0 : Int32) ≤ (M.1 26 0 5) ∧ (M.1 26 0 5) ≤ (40 : Int32) := hM.at1 26 0 5
                exact vp_of (by decide) (by grind) (show v23 < (40 : Int32) by grind)
              have g42 := vp_to (by decide) g42
              have g42 : (0 : Int32) ≤ v23 ∧ v23 < (40 : Int32) := g42
              refine ok_lq (fun M30 e46 => ?_)
              have p47 : (0 : Int32) ≤ p1 ∧ p1 ≤ (7 : Int32) := by
                have c48 : (0 : Int32) ≤ (M.1 33 0 (p1).toNatClampNeg) ∧ (M.1 33 0 (p1).toNatClampNeg) ≤ (5 : Int32) := hM.at1 33 0 ((p1).toNatClampNeg)
                exact ⟨by grind, by grind⟩
              have hM30 : IV A B M30 := by rw [e46]; exact hM28.u1 rfl (a11 ((v23).toNatClampNeg)) p47
              have p49 : (0 : Int32) ≤ v23 ∧ v23 ≤ (40 : Int32) := by
                have c50 : (0 : Int32) ≤ (M20.1 26 0 5) ∧ (M20.1 26 0 5) ≤ (40 : Int32) := hM20.at1 26 0 5
                have c51 : (M20.1 26 0 5) = (M.1 26 0 5) := w26f.same (by simp)
                have c52 : (0 : Int32) ≤ (M.1 26 0 5) ∧ (M.1 26 0 5) ≤ (40 : Int32) := hM.at1 26 0 5
                exact ⟨by grind, by grind⟩
              refine ok_b0 (s_X7_sumOf M30 hM30 v23 p49) (fun v31 w53 => ?_)
              refine ok_gd ?_ (fun g54 => ?_)
              · have c55 : (0 : Int32) ≤ (M20.1 26 0 5) ∧ (M20.1 26 0 5) ≤ (40 : Int32) := hM20.at1 26 0 5
                have c56 : (M20.1 26 0 5) = (M.1 26 0 5) := w26f.same (by simp)
                have c57 : (0 : Int32) ≤ (M.1 26 0 5) ∧ (M.1 26 0 5) ≤ (40 : Int32) := hM.at1 26 0 5
                exact vp_of (by decide) (by grind) (show v23 < (40 : Int32) by grind)
              have g54 := vp_to (by decide) g54
              have g54 : (0 : Int32) ≤ v23 ∧ v23 < (40 : Int32) := g54
              refine ok_lq (fun M34 e58 => ?_)
              have hM34 : IV A B M34 := by rw [e58]; exact hM30.u2 (a1 ((v23).toNatClampNeg))
              refine ok_gd ?_ (fun g59 => ?_)
              · have c60 : (0 : Int32) ≤ (M20.1 26 0 5) ∧ (M20.1 26 0 5) ≤ (40 : Int32) := hM20.at1 26 0 5
                have c61 : (M20.1 26 0 5) = (M.1 26 0 5) := w26f.same (by simp)
                have c62 : (0 : Int32) ≤ (M.1 26 0 5) ∧ (M.1 26 0 5) ≤ (40 : Int32) := hM.at1 26 0 5
                exact vp_of (by decide) (by grind) (show v23 < (40 : Int32) by grind)
              have g59 := vp_to (by decide) g59
              have g59 : (0 : Int32) ≤ v23 ∧ v23 < (40 : Int32) := g59
              refine ok_lq (fun M36 e63 => ?_)
              have p64 : (0 : Int32) ≤ (vp_nar .char (115 : Int32)) ∧ (vp_nar .char (115 : Int32)) ≤ (65535 : Int32) := by
                have c65 : (0 : Int32) ≤ (vp_nar .char (115 : Int32)) ∧ (vp_nar .char (115 : Int32)) ≤ (65535 : Int32) := nar_c _
                exact ⟨by grind, by grind⟩
              have hM36 : IV A B M36 := by rw [e63]; exact hM34.u1 rfl (a12 ((v23).toNatClampNeg)) p64
              refine ok_gd ?_ (fun g66 => ?_)
              · have c67 : (0 : Int32) ≤ (M20.1 26 0 5) ∧ (M20.1 26 0 5) ≤ (40 : Int32) := hM20.at1 26 0 5
                have c68 : (M20.1 26 0 5) = (M.1 26 0 5) := w26f.same (by simp)
                have c69 : (0 : Int32) ≤ (M.1 26 0 5) ∧ (M.1 26 0 5) ≤ (40 : Int32) := hM.at1 26 0 5
                exact vp_of (by decide) (by grind) (show v23 < (40 : Int32) by grind)
              have g66 := vp_to (by decide) g66
              have g66 : (0 : Int32) ≤ v23 ∧ v23 < (40 : Int32) := g66
              refine ok_lq (fun M38 e70 => ?_)
              have p71 : (0 : Int32) ≤ (vp_nar .boolean (1 : Int32)) ∧ (vp_nar .boolean (1 : Int32)) ≤ (1 : Int32) := by
                have c72 : (0 : Int32) ≤ (vp_nar .boolean (1 : Int32)) ∧ (vp_nar .boolean (1 : Int32)) ≤ (1 : Int32) := ⟨by decide, by decide⟩
                exact ⟨by grind, by grind⟩
              have hM38 : IV A B M38 := by rw [e70]; exact hM36.u1 rfl (a13 ((v23).toNatClampNeg)) p71
              refine ok_lq (fun M39 e73 => ?_)
              have p74 : (0 : Int32) ≤ ((M38.1 26 0 5) + (1 : Int32)) ∧ ((M38.1 26 0 5) + (1 : Int32)) ≤ (40 : Int32) := by
                have c75 : (0 : Int32) ≤ (vp_nar .boolean (1 : Int32)) ∧ (vp_nar .boolean (1 : Int32)) ≤ (1 : Int32) := ⟨by decide, by decide⟩
                have c76 : (0 : Int32) ≤ (M38.1 26 0 5) ∧ (M38.1 26 0 5) ≤ (40 : Int32) := hM38.at1 26 0 5
                have c77 : (M38.1 26 0 5) = (M36.1 26 0 5) := by rw [e70]; exact up_k (by decide)
                have c78 : (0 : Int32) ≤ (M36.1 26 0 5) ∧ (M36.1 26 0 5) ≤ (40 : Int32) := hM36.at1 26 0 5
                have c79 : (M36.1 26 0 5) = (M34.1 26 0 5) := by rw [e63]; exact up_k (by decide)
                have c80 : (0 : Int32) ≤ (M34.1 26 0 5) ∧ (M34.1 26 0 5) ≤ (40 : Int32) := hM34.at1 26 0 5
                have c81 : (M34.1 26 0 5) = (M30.1 26 0 5) := by rw [e58]; rfl
                have c82 : (0 : Int32) ≤ (M30.1 26 0 5) ∧ (M30.1 26 0 5) ≤ (40 : Int32) := hM30.at1 26 0 5
                have c83 : (M30.1 26 0 5) = (M28.1 26 0 5) := by rw [e46]; exact up_k (by decide)
                have c84 : (0 : Int32) ≤ (M28.1 26 0 5) ∧ (M28.1 26 0 5) ≤ (40 : Int32) := hM28.at1 26 0 5
                have c85 : (M28.1 26 0 5) = (M25.1 26 0 5) := by rw [e40]; exact up_k (by decide)
                have c86 : (0 : Int32) ≤ (M25.1 26 0 5) ∧ (M25.1 26 0 5) ≤ (40 : Int32) := hM25.at1 26 0 5
                exact ⟨by grind, by grind⟩
              have hM39 : IV A B M39 := by rw [e73]; exact hM38.u1 rfl (a5) p74
              refine ok_b1 (s_X7_makesRoom M39 hM39 (a2) (a3) (a4) (fun p => a12 p) (fun p => a13 p) (fun p => a14 p) (fun p => a15 p) (fun p => a16 p) (fun p => a17 p)) (fun M41 v40 w87 => ?_)
              have hM41 : IV A B M41 := w87.1
              refine ok_ite (fun q88 => ?_) (fun q88 => ?_)
              · refine ok_b1 (s_X7_tells M41 hM41 ((-1) : Int32) (a6)) (fun M45 v44 w89 => ?_)
                have hM45 : IV A B M45 := w89.1
                exact ok_some ⟨hM45, trivial⟩
              · refine ok_b1 (s_X7_tells M41 hM41 v23 (a6)) (fun M48 v47 w90 => ?_)
                have hM48 : IV A B M48 := w90.1
                exact ok_some ⟨hM48, trivial⟩
theorem s_X7_works {A : Nat → Nat → Nat → Prop} {B : SS} (M : SS) (hM : IV A B M) (a1 : A 26 0 9) : ok (f_X7_works M) (fun r => IV A B r.1 ∧ True) := by
  unfold f_X7_works
  refine ok_b1 (s_X7_tells M hM (M.1 26 0 5) (a1)) (fun M2 v1 w1 => ?_)
  have hM2 : IV A B M2 := w1.1
  exact ok_some ⟨hM2, trivial⟩
theorem s_X7_votesOf_L4 {A : Nat → Nat → Nat → Prop} {B : SS} (p0 : Int32) (ip0 : (0 : Int32) ≤ p0 ∧ p0 ≤ (39 : Int32)) (M : SS) (hM : IV A B M) : ∀ (n : Nat), ∀ (v3 : Int32) (v4 : Int32) (k1 : (Int32 → Option (Int32))), (FU v3 10 n) → ((0 : Int32) ≤ v3 ∧ v3 ≤ (10 : Int32)) → (∀ (k_0 : Int32), ok (k1 k_0) (fun r => True)) → ok (f_X7_votesOf_L4 p0 M n v3 v4 k1) (fun r => True) := by
  intro n
  induction n with
  | zero =>
    intro v3 v4 k1 hF iv3 hk
    exact (FU.stop hF (show v3 ≤ (10 : Int32) by grind)).elim
  | succ n ih =>
    intro v3 v4 k1 hF iv3 hk
    rw [f_X7_votesOf_L4]
    refine ok_ite (fun q1 => ?_) (fun q1 => ?_)
    · exact hk v4
    · refine ok_gd ?_ (fun g2 => ?_)
      · exact vp_of (by decide) (by grind) (show (((10 : Int32) * p0) + v3) < (400 : Int32) by grind)
      have g2 := vp_to (by decide) g2
      have g2 : (0 : Int32) ≤ (((10 : Int32) * p0) + v3) ∧ (((10 : Int32) * p0) + v3) < (400 : Int32) := g2
      refine ok_ite (fun q3 => ?_) (fun q3 => ?_)
      · refine ok_lq (fun v8 e4 => ?_)
        have p5 : FU (v3 + (1 : Int32)) 10 _ := by
          have c6 : (0 : Int32) ≤ (M.1 46 0 ((((10 : Int32) * p0) + v3)).toNatClampNeg) ∧ (M.1 46 0 ((((10 : Int32) * p0) + v3)).toNatClampNeg) ≤ (5 : Int32) := hM.at1 46 0 (((((10 : Int32) * p0) + v3)).toNatClampNeg)
          exact FU.step hF (by grind)
        have p7 : (0 : Int32) ≤ (v3 + (1 : Int32)) ∧ (v3 + (1 : Int32)) ≤ (10 : Int32) := by
          have c8 : (0 : Int32) ≤ (M.1 46 0 ((((10 : Int32) * p0) + v3)).toNatClampNeg) ∧ (M.1 46 0 ((((10 : Int32) * p0) + v3)).toNatClampNeg) ≤ (5 : Int32) := hM.at1 46 0 (((((10 : Int32) * p0) + v3)).toNatClampNeg)
          exact ⟨by grind, by grind⟩
        exact ih (v3 + (1 : Int32)) v8 k1 p5 p7 hk
      · refine ok_lq (fun v9 e9 => ?_)
        have p10 : FU (v3 + (1 : Int32)) 10 _ := by
          have c11 : (0 : Int32) ≤ (M.1 46 0 ((((10 : Int32) * p0) + v3)).toNatClampNeg) ∧ (M.1 46 0 ((((10 : Int32) * p0) + v3)).toNatClampNeg) ≤ (5 : Int32) := hM.at1 46 0 (((((10 : Int32) * p0) + v3)).toNatClampNeg)
          exact FU.step hF (by grind)
        have p12 : (0 : Int32) ≤ (v3 + (1 : Int32)) ∧ (v3 + (1 : Int32)) ≤ (10 : Int32) := by
          have c13 : (0 : Int32) ≤ (M.1 46 0 ((((10 : Int32) * p0) + v3)).toNatClampNeg) ∧ (M.1 46 0 ((((10 : Int32) * p0) + v3)).toNatClampNeg) ≤ (5 : Int32) := hM.at1 46 0 (((((10 : Int32) * p0) + v3)).toNatClampNeg)
          exact ⟨by grind, by grind⟩
        exact ih (v3 + (1 : Int32)) v9 k1 p10 p12 hk
theorem s_X7_votesOf {A : Nat → Nat → Nat → Prop} {B : SS} (M : SS) (hM : IV A B M) (p0 : Int32) (ip0 : (0 : Int32) ≤ p0 ∧ p0 ≤ (39 : Int32)) : ok (f_X7_votesOf M p0) (fun r => True) := by
  unfold f_X7_votesOf
  have p1 : (0 : Int32) ≤ p0 ∧ p0 ≤ (39 : Int32) := by
    exact ⟨by grind, by grind⟩
  have p2 : FU (0 : Int32) 10 1000 := by
    exact FU.start (by grind) (by decide)
  refine s_X7_votesOf_L4 p0 p1 M hM 1000 (0 : Int32) (0 : Int32) _ p2 ⟨by decide, by decide⟩ (fun v2 => ?_)
  exact ok_some trivial
theorem s_X7_weighed_L4 {A : Nat → Nat → Nat → Prop} {B : SS} (p0 : Int32) (ip0 : (0 : Int32) ≤ p0 ∧ p0 ≤ (39 : Int32)) (M : SS) (hM : IV A B M) : ∀ (n : Nat), ∀ (v3 : Int32) (v4 : Int32) (k1 : (Int32 → Option (Int32))), (FU v3 10 n) → ((0 : Int32) ≤ v3 ∧ v3 ≤ (10 : Int32)) → (∀ (k_0 : Int32), ok (k1 k_0) (fun r => True)) → ok (f_X7_weighed_L4 p0 M n v3 v4 k1) (fun r => True) := by
  intro n
  induction n with
  | zero =>
    intro v3 v4 k1 hF iv3 hk
    exact (FU.stop hF (show v3 ≤ (10 : Int32) by grind)).elim
  | succ n ih =>
    intro v3 v4 k1 hF iv3 hk
    rw [f_X7_weighed_L4]
    refine ok_ite (fun q1 => ?_) (fun q1 => ?_)
    · exact hk v4
    · refine ok_gd ?_ (fun g2 => ?_)
      · exact vp_of (by decide) (by grind) (show (((10 : Int32) * p0) + v3) < (400 : Int32) by grind)
      have g2 := vp_to (by decide) g2
      have g2 : (0 : Int32) ≤ (((10 : Int32) * p0) + v3) ∧ (((10 : Int32) * p0) + v3) < (400 : Int32) := g2
      refine ok_gd ?_ (fun g3 => ?_)
      · exact vp_of (by decide) (by grind) (show (((10 : Int32) * p0) + v3) < (400 : Int32) by grind)
      have g3 := vp_to (by decide) g3
      have g3 : (0 : Int32) ≤ (((10 : Int32) * p0) + v3) ∧ (((10 : Int32) * p0) + v3) < (400 : Int32) := g3
      refine ok_lq (fun v8 e4 => ?_)
      have p5 : FU (v3 + (1 : Int32)) 10 _ := by
        exact FU.step hF (by grind)
      have p6 : (0 : Int32) ≤ (v3 + (1 : Int32)) ∧ (v3 + (1 : Int32)) ≤ (10 : Int32) := by
        exact ⟨by grind, by grind⟩
      exact ih (v3 + (1 : Int32)) v8 k1 p5 p6 hk
theorem s_X7_weighed {A : Nat → Nat → Nat → Prop} {B : SS} (M : SS) (hM : IV A B M) (p0 : Int32) (ip0 : (0 : Int32) ≤ p0 ∧ p0 ≤ (39 : Int32)) : ok (f_X7_weighed M p0) (fun r => True) := by
  unfold f_X7_weighed
  have p1 : (0 : Int32) ≤ p0 ∧ p0 ≤ (39 : Int32) := by
    exact ⟨by grind, by grind⟩
  have p2 : FU (0 : Int32) 10 1000 := by
    exact FU.start (by grind) (by decide)
  refine s_X7_weighed_L4 p0 p1 M hM 1000 (0 : Int32) (0 : Int32) _ p2 ⟨by decide, by decide⟩ (fun v2 => ?_)
  exact ok_some trivial
theorem s_X7_of {A : Nat → Nat → Nat → Prop} {B : SS} (M : SS) (hM : IV A B M) (p0 : Int32) (p1 : Int32) (a1 : A 26 0 9) : ok (f_X7_of M p0 p1) (fun r => IV A B r.1 ∧ True) := by
  unfold f_X7_of
  refine ok_b0 (s_X7_isWork M hM p0) (fun v1 w1 => ?_)
  have w2 : (0 : Int32) ≤ v1 ∧ v1 ≤ (1 : Int32) ∧ ((v1 = 0 ∧ (p0 < 0 ∨ (M.1 26 0 5) ≤ p0)) ∨ (v1 = 1 ∧ 0 ≤ p0 ∧ p0 < (M.1 26 0 5))) := w1
  refine ok_ite (fun q3 => ?_) (fun q3 => ?_)
  · refine ok_b1 (s_X7_fails M hM (1 : Int32) ⟨by decide, by decide⟩ (a1)) (fun M36 v35 w4 => ?_)
    have hM36 : IV A B M36 := w4.1
    have w5 : (0 : Int32) ≤ v35 ∧ v35 ≤ (0 : Int32) := w4.2
    exact ok_some ⟨hM36, trivial⟩
  · refine ok_ite (fun q6 => ?_) (fun q6 => ?_)
    · refine ok_gd ?_ (fun g7 => ?_)
      · exact vp_of (by decide) (by grind) (show p0 < (40 : Int32) by grind)
      have g7 := vp_to (by decide) g7
      have g7 : (0 : Int32) ≤ p0 ∧ p0 < (40 : Int32) := g7
      refine ok_b1 (s_X7_tells M hM (M.1 40 0 (p0).toNatClampNeg) (a1)) (fun M8 v7 w8 => ?_)
      have hM8 : IV A B M8 := w8.1
      exact ok_some ⟨hM8, trivial⟩
    · refine ok_ite (fun q9 => ?_) (fun q9 => ?_)
      · refine ok_gd ?_ (fun g10 => ?_)
        · exact vp_of (by decide) (by grind) (show p0 < (40 : Int32) by grind)
        have g10 := vp_to (by decide) g10
        have g10 : (0 : Int32) ≤ p0 ∧ p0 < (40 : Int32) := g10
        refine ok_b1 (s_X7_tells M hM (M.1 39 0 (p0).toNatClampNeg) (a1)) (fun M13 v12 w11 => ?_)
        have hM13 : IV A B M13 := w11.1
        exact ok_some ⟨hM13, trivial⟩
      · refine ok_ite (fun q12 => ?_) (fun q12 => ?_)
        · refine ok_gd ?_ (fun g13 => ?_)
          · exact vp_of (by decide) (by grind) (show p0 < (41 : Int32) by grind)
          have g13 := vp_to (by decide) g13
          have g13 : (0 : Int32) ≤ p0 ∧ p0 < (41 : Int32) := g13
          refine ok_b1 (s_X7_tells M hM (M.1 29 0 (p0).toNatClampNeg) (a1)) (fun M18 v17 w14 => ?_)
          have hM18 : IV A B M18 := w14.1
          exact ok_some ⟨hM18, trivial⟩
        · refine ok_ite (fun q15 => ?_) (fun q15 => ?_)
          · have p16 : (0 : Int32) ≤ p0 ∧ p0 ≤ (39 : Int32) := by
              exact ⟨by grind, by grind⟩
            refine ok_b0 (s_X7_votesOf M hM p0 p16) (fun v21 w17 => ?_)
            refine ok_b1 (s_X7_tells M hM v21 (a1)) (fun M24 v23 w18 => ?_)
            have hM24 : IV A B M24 := w18.1
            exact ok_some ⟨hM24, trivial⟩
          · refine ok_ite (fun q19 => ?_) (fun q19 => ?_)
            · have p20 : (0 : Int32) ≤ p0 ∧ p0 ≤ (39 : Int32) := by
                exact ⟨by grind, by grind⟩
              refine ok_b0 (s_X7_weightOf M hM p0 p20) (fun v27 w21 => ?_)
              have w22 : ((0 : Int32) ≤ v27 ∧ v27 ≤ (60 : Int32)) := w21
              refine ok_b1 (s_X7_tells M hM v27 (a1)) (fun M30 v29 w23 => ?_)
              have hM30 : IV A B M30 := w23.1
              exact ok_some ⟨hM30, trivial⟩
            · refine ok_b1 (s_X7_fails M hM (2 : Int32) ⟨by decide, by decide⟩ (a1)) (fun M33 v32 w24 => ?_)
              have hM33 : IV A B M33 := w24.1
              have w25 : (0 : Int32) ≤ v32 ∧ v32 ≤ (0 : Int32) := w24.2
              exact ok_some ⟨hM33, trivial⟩
theorem s_X7_state {A : Nat → Nat → Nat → Prop} {B : SS} (M : SS) (hM : IV A B M) (p0 : Int32) (a1 : A 26 0 9) : ok (f_X7_state M p0) (fun r => IV A B r.1 ∧ (0 : Int32) ≤ r.2 ∧ r.2 ≤ (65535 : Int32)) := by
  unfold f_X7_state
  refine ok_b0 (s_X7_isWork M hM p0) (fun v1 w1 => ?_)
  have w2 : (0 : Int32) ≤ v1 ∧ v1 ≤ (1 : Int32) ∧ ((v1 = 0 ∧ (p0 < 0 ∨ (M.1 26 0 5) ≤ p0)) ∨ (v1 = 1 ∧ 0 ≤ p0 ∧ p0 < (M.1 26 0 5))) := w1
  refine ok_ite (fun q3 => ?_) (fun q3 => ?_)
  · unfold f_X7_state_J14
    refine ok_lq (fun M5 e4 => ?_)
    have hM5 : IV A B M5 := by rw [e4]; exact hM.u1 rfl (a1) ⟨by decide, by decide⟩
    refine ok_ite (fun q5 => ?_) (fun q5 => ?_)
    · refine ok_gd ?_ (fun g6 => ?_)
      · exact vp_of (by decide) (by grind) (show p0 < (40 : Int32) by grind)
      have g6 := vp_to (by decide) g6
      have g6 : (0 : Int32) ≤ p0 ∧ p0 < (40 : Int32) := g6
      refine ok_gd ?_ (fun g7 => ?_)
      · have c8 : (0 : Int32) ≤ (M5.1 42 0 (p0).toNatClampNeg) ∧ (M5.1 42 0 (p0).toNatClampNeg) ≤ (65535 : Int32) := hM5.at1 42 0 ((p0).toNatClampNeg)
        have c9 : (M5.1 42 0 (p0).toNatClampNeg) = (M.1 42 0 (p0).toNatClampNeg) := by rw [e4]; exact up_k (by decide)
        have c10 : (0 : Int32) ≤ (M.1 42 0 (p0).toNatClampNeg) ∧ (M.1 42 0 (p0).toNatClampNeg) ≤ (65535 : Int32) := hM.at1 42 0 ((p0).toNatClampNeg)
        exact okc_of (by grind) (by grind)
      have p11 : (0 : Int32) ≤ (M5.1 42 0 (p0).toNatClampNeg) ∧ (M5.1 42 0 (p0).toNatClampNeg) ≤ (65535 : Int32) := by
        have c12 : (0 : Int32) ≤ (M5.1 42 0 (p0).toNatClampNeg) ∧ (M5.1 42 0 (p0).toNatClampNeg) ≤ (65535 : Int32) := hM5.at1 42 0 ((p0).toNatClampNeg)
        have c13 : (M5.1 42 0 (p0).toNatClampNeg) = (M.1 42 0 (p0).toNatClampNeg) := by rw [e4]; exact up_k (by decide)
        have c14 : (0 : Int32) ≤ (M.1 42 0 (p0).toNatClampNeg) ∧ (M.1 42 0 (p0).toNatClampNeg) ≤ (65535 : Int32) := hM.at1 42 0 ((p0).toNatClampNeg)
        exact ⟨by grind, by grind⟩
      exact ok_some ⟨hM5, p11⟩
    · have p15 : (0 : Int32) ≤ (0 : Int32) ∧ (0 : Int32) ≤ (65535 : Int32) := by
        exact ⟨by grind, by grind⟩
      exact ok_some ⟨hM5, p15⟩
  · unfold f_X7_state_J14
    refine ok_lq (fun M5 e16 => ?_)
    have hM5 : IV A B M5 := by rw [e16]; exact hM.u1 rfl (a1) ⟨by decide, by decide⟩
    refine ok_ite (fun q17 => ?_) (fun q17 => ?_)
    · refine ok_gd ?_ (fun g18 => ?_)
      · exact vp_of (by decide) (by grind) (show p0 < (40 : Int32) by grind)
      have g18 := vp_to (by decide) g18
      have g18 : (0 : Int32) ≤ p0 ∧ p0 < (40 : Int32) := g18
      refine ok_gd ?_ (fun g19 => ?_)
      · have c20 : (0 : Int32) ≤ (M5.1 42 0 (p0).toNatClampNeg) ∧ (M5.1 42 0 (p0).toNatClampNeg) ≤ (65535 : Int32) := hM5.at1 42 0 ((p0).toNatClampNeg)
        have c21 : (M5.1 42 0 (p0).toNatClampNeg) = (M.1 42 0 (p0).toNatClampNeg) := by rw [e16]; exact up_k (by decide)
        have c22 : (0 : Int32) ≤ (M.1 42 0 (p0).toNatClampNeg) ∧ (M.1 42 0 (p0).toNatClampNeg) ≤ (65535 : Int32) := hM.at1 42 0 ((p0).toNatClampNeg)
        exact okc_of (by grind) (by grind)
      have p23 : (0 : Int32) ≤ (M5.1 42 0 (p0).toNatClampNeg) ∧ (M5.1 42 0 (p0).toNatClampNeg) ≤ (65535 : Int32) := by
        have c24 : (0 : Int32) ≤ (M5.1 42 0 (p0).toNatClampNeg) ∧ (M5.1 42 0 (p0).toNatClampNeg) ≤ (65535 : Int32) := hM5.at1 42 0 ((p0).toNatClampNeg)
        have c25 : (M5.1 42 0 (p0).toNatClampNeg) = (M.1 42 0 (p0).toNatClampNeg) := by rw [e16]; exact up_k (by decide)
        have c26 : (0 : Int32) ≤ (M.1 42 0 (p0).toNatClampNeg) ∧ (M.1 42 0 (p0).toNatClampNeg) ≤ (65535 : Int32) := hM.at1 42 0 ((p0).toNatClampNeg)
        exact ⟨by grind, by grind⟩
      exact ok_some ⟨hM5, p23⟩
    · have p27 : (0 : Int32) ≤ (0 : Int32) ∧ (0 : Int32) ≤ (65535 : Int32) := by
        exact ⟨by grind, by grind⟩
      exact ok_some ⟨hM5, p27⟩
theorem s_X7_sum {A : Nat → Nat → Nat → Prop} {B : SS} (M : SS) (hM : IV A B M) (p0 : Int32) (a1 : A 26 0 9) : ok (f_X7_sum M p0) (fun r => IV A B r.1 ∧ True) := by
  unfold f_X7_sum
  refine ok_b0 (s_X7_isWork M hM p0) (fun v1 w1 => ?_)
  have w2 : (0 : Int32) ≤ v1 ∧ v1 ≤ (1 : Int32) ∧ ((v1 = 0 ∧ (p0 < 0 ∨ (M.1 26 0 5) ≤ p0)) ∨ (v1 = 1 ∧ 0 ≤ p0 ∧ p0 < (M.1 26 0 5))) := w1
  refine ok_ite (fun q3 => ?_) (fun q3 => ?_)
  · unfold f_X7_sum_J14
    refine ok_lq (fun M5 e4 => ?_)
    have hM5 : IV A B M5 := by rw [e4]; exact hM.u1 rfl (a1) ⟨by decide, by decide⟩
    refine ok_ite (fun q5 => ?_) (fun q5 => ?_)
    · refine ok_gd ?_ (fun g6 => ?_)
      · exact vp_of (by decide) (by grind) (show p0 < (40 : Int32) by grind)
      have g6 := vp_to (by decide) g6
      have g6 : (0 : Int32) ≤ p0 ∧ p0 < (40 : Int32) := g6
      exact ok_some ⟨hM5, trivial⟩
    · exact ok_some ⟨hM5, trivial⟩
  · unfold f_X7_sum_J14
    refine ok_lq (fun M5 e7 => ?_)
    have hM5 : IV A B M5 := by rw [e7]; exact hM.u1 rfl (a1) ⟨by decide, by decide⟩
    refine ok_ite (fun q8 => ?_) (fun q8 => ?_)
    · refine ok_gd ?_ (fun g9 => ?_)
      · exact vp_of (by decide) (by grind) (show p0 < (40 : Int32) by grind)
      have g9 := vp_to (by decide) g9
      have g9 : (0 : Int32) ≤ p0 ∧ p0 < (40 : Int32) := g9
      exact ok_some ⟨hM5, trivial⟩
    · exact ok_some ⟨hM5, trivial⟩
theorem s_X7_steps {A : Nat → Nat → Nat → Prop} {B : SS} (M : SS) (hM : IV A B M) (p0 : Int32) (p1 : Int32) (a1 : A 26 0 38) (a2 : A 26 0 39) (a3 : A 26 0 40) (a4 : A 26 0 9) (a5 : ∀ p, A 53 0 p) (a6 : ∀ p, A 54 0 p) : ok (f_X7_steps M p0 p1) (fun r => IV A B r.1 ∧ True) := by
  unfold f_X7_steps
  refine ok_b0 (s_X7_isWork M hM p0) (fun v1 w1 => ?_)
  have w2 : (0 : Int32) ≤ v1 ∧ v1 ≤ (1 : Int32) ∧ ((v1 = 0 ∧ (p0 < 0 ∨ (M.1 26 0 5) ≤ p0)) ∨ (v1 = 1 ∧ 0 ≤ p0 ∧ p0 < (M.1 26 0 5))) := w1
  refine ok_ite (fun q3 => ?_) (fun q3 => ?_)
  · refine ok_b1 (s_X7_fails M hM (1 : Int32) ⟨by decide, by decide⟩ (a4)) (fun M5 v4 w4 => ?_)
    have hM5 : IV A B M5 := w4.1
    have w5 : (0 : Int32) ≤ v4 ∧ v4 ≤ (0 : Int32) := w4.2
    exact ok_some ⟨hM5, trivial⟩
  · refine ok_gd ?_ (fun g6 => ?_)
    · exact vp_of (by decide) (by grind) (show p0 < (40 : Int32) by grind)
    have g6 := vp_to (by decide) g6
    have g6 : (0 : Int32) ≤ p0 ∧ p0 < (40 : Int32) := g6
    refine ok_b0 (s_X7_isTest M hM (M.1 40 0 (p0).toNatClampNeg) p1) (fun v8 w7 => ?_)
    have w8 : (0 : Int32) ≤ v8 ∧ v8 ≤ (1 : Int32) ∧ ((v8 = 0 ∧ (((M.1 40 0 (p0).toNatClampNeg) < 0 ∨ (M.1 26 0 3) ≤ (M.1 40 0 (p0).toNatClampNeg)) ∨ p1 < 0 ∨ (M.1 33 0 ((M.1 40 0 (p0).toNatClampNeg)).toNatClampNeg) ≤ p1)) ∨ (v8 = 1 ∧ 0 ≤ (M.1 40 0 (p0).toNatClampNeg) ∧ (M.1 40 0 (p0).toNatClampNeg) < (M.1 26 0 3) ∧ 0 ≤ p1 ∧ p1 < (M.1 33 0 ((M.1 40 0 (p0).toNatClampNeg)).toNatClampNeg))) := w7
    refine ok_ite (fun q9 => ?_) (fun q9 => ?_)
    · refine ok_b1 (s_X7_fails M hM (1 : Int32) ⟨by decide, by decide⟩ (a4)) (fun M22 v21 w10 => ?_)
      have hM22 : IV A B M22 := w10.1
      have w11 : (0 : Int32) ≤ v21 ∧ v21 ≤ (0 : Int32) := w10.2
      exact ok_some ⟨hM22, trivial⟩
    · have p12 : (0 : Int32) ≤ p0 ∧ p0 ≤ (39 : Int32) := by
        have c13 : (0 : Int32) ≤ (M.1 40 0 (p0).toNatClampNeg) ∧ (M.1 40 0 (p0).toNatClampNeg) ≤ (7 : Int32) := hM.at1 40 0 ((p0).toNatClampNeg)
        have c14 : (0 : Int32) ≤ (M.1 33 0 ((M.1 40 0 (p0).toNatClampNeg)).toNatClampNeg) ∧ (M.1 33 0 ((M.1 40 0 (p0).toNatClampNeg)).toNatClampNeg) ≤ (5 : Int32) := hM.at1 33 0 (((M.1 40 0 (p0).toNatClampNeg)).toNatClampNeg)
        exact ⟨by grind, by grind⟩
      have p15 : (0 : Int32) ≤ p1 ∧ p1 ≤ (4 : Int32) := by
        exact ⟨by grind, by grind⟩
      refine ok_b1 (s_X7_stepsOf M hM p0 p12 p1 p15 (a1) (a2) (a3) (fun p => a5 p) (fun p => a6 p)) (fun M12 v11 w16 => ?_)
      have hM12 : IV A B M12 := w16.1
      refine ok_ite (fun q17 => ?_) (fun q17 => ?_)
      · refine ok_b1 (s_X7_fails M12 hM12 (2 : Int32) ⟨by decide, by decide⟩ (a4)) (fun M19 v18 w18 => ?_)
        have hM19 : IV A B M19 := w18.1
        have w19 : (0 : Int32) ≤ v18 ∧ v18 ≤ (0 : Int32) := w18.2
        exact ok_some ⟨hM19, trivial⟩
      · refine ok_b1 (s_X7_tells M12 hM12 v11 (a4)) (fun M16 v15 w20 => ?_)
        have hM16 : IV A B M16 := w20.1
        exact ok_some ⟨hM16, trivial⟩
theorem s_X7_hasBody {A : Nat → Nat → Nat → Prop} {B : SS} (M : SS) (hM : IV A B M) (p0 : Int32) (a1 : A 26 0 9) : ok (f_X7_hasBody M p0) (fun r => IV A B r.1 ∧ (0 : Int32) ≤ r.2 ∧ r.2 ≤ (1 : Int32)) := by
  unfold f_X7_hasBody
  refine ok_b0 (s_X7_isWork M hM p0) (fun v1 w1 => ?_)
  have w2 : (0 : Int32) ≤ v1 ∧ v1 ≤ (1 : Int32) ∧ ((v1 = 0 ∧ (p0 < 0 ∨ (M.1 26 0 5) ≤ p0)) ∨ (v1 = 1 ∧ 0 ≤ p0 ∧ p0 < (M.1 26 0 5))) := w1
  refine ok_ite (fun q3 => ?_) (fun q3 => ?_)
  · unfold f_X7_hasBody_J14
    refine ok_lq (fun M5 e4 => ?_)
    have hM5 : IV A B M5 := by rw [e4]; exact hM.u1 rfl (a1) ⟨by decide, by decide⟩
    refine ok_ite (fun q5 => ?_) (fun q5 => ?_)
    · refine ok_gd ?_ (fun g6 => ?_)
      · exact vp_of (by decide) (by grind) (show p0 < (40 : Int32) by grind)
      have g6 := vp_to (by decide) g6
      have g6 : (0 : Int32) ≤ p0 ∧ p0 < (40 : Int32) := g6
      refine ok_ite (fun q7 => ?_) (fun q7 => ?_)
      · have p8 : (0 : Int32) ≤ (0 : Int32) ∧ (0 : Int32) ≤ (1 : Int32) := by
          exact ⟨by grind, by grind⟩
        exact ok_some ⟨hM5, p8⟩
      · have p9 : (0 : Int32) ≤ (1 : Int32) ∧ (1 : Int32) ≤ (1 : Int32) := by
          exact ⟨by grind, by grind⟩
        exact ok_some ⟨hM5, p9⟩
    · have p10 : (0 : Int32) ≤ (0 : Int32) ∧ (0 : Int32) ≤ (1 : Int32) := by
        exact ⟨by grind, by grind⟩
      exact ok_some ⟨hM5, p10⟩
  · unfold f_X7_hasBody_J14
    refine ok_lq (fun M5 e11 => ?_)
    have hM5 : IV A B M5 := by rw [e11]; exact hM.u1 rfl (a1) ⟨by decide, by decide⟩
    refine ok_ite (fun q12 => ?_) (fun q12 => ?_)
    · refine ok_gd ?_ (fun g13 => ?_)
      · exact vp_of (by decide) (by grind) (show p0 < (40 : Int32) by grind)
      have g13 := vp_to (by decide) g13
      have g13 : (0 : Int32) ≤ p0 ∧ p0 < (40 : Int32) := g13
      refine ok_ite (fun q14 => ?_) (fun q14 => ?_)
      · have p15 : (0 : Int32) ≤ (0 : Int32) ∧ (0 : Int32) ≤ (1 : Int32) := by
          exact ⟨by grind, by grind⟩
        exact ok_some ⟨hM5, p15⟩
      · have p16 : (0 : Int32) ≤ (1 : Int32) ∧ (1 : Int32) ≤ (1 : Int32) := by
          exact ⟨by grind, by grind⟩
        exact ok_some ⟨hM5, p16⟩
    · have p17 : (0 : Int32) ≤ (0 : Int32) ∧ (0 : Int32) ≤ (1 : Int32) := by
        exact ⟨by grind, by grind⟩
      exact ok_some ⟨hM5, p17⟩
theorem s_X7_letter {A : Nat → Nat → Nat → Prop} {B : SS} (M : SS) (hM : IV A B M) (p0 : Int32) (p1 : Int32) (a1 : A 26 0 9) : ok (f_X7_letter M p0 p1) (fun r => IV A B r.1 ∧ (0 : Int32) ≤ r.2 ∧ r.2 ≤ (65535 : Int32)) := by
  unfold f_X7_letter
  refine ok_b0 (s_X7_isWork M hM p0) (fun v1 w1 => ?_)
  have w2 : (0 : Int32) ≤ v1 ∧ v1 ≤ (1 : Int32) ∧ ((v1 = 0 ∧ (p0 < 0 ∨ (M.1 26 0 5) ≤ p0)) ∨ (v1 = 1 ∧ 0 ≤ p0 ∧ p0 < (M.1 26 0 5))) := w1
  refine ok_ite (fun q3 => ?_) (fun q3 => ?_)
  · unfold f_X7_letter_J43
    refine ok_lq (fun M5 e4 => ?_)
    have hM5 : IV A B M5 := by rw [e4]; exact hM.u1 rfl (a1) ⟨by decide, by decide⟩
    refine ok_ite (fun q5 => ?_) (fun q5 => ?_)
    · refine ok_gd ?_ (fun g6 => ?_)
      · exact vp_of (by decide) (by grind) (show (((24 : Int32) * p0) + p1) < (984 : Int32) by grind)
      have g6 := vp_to (by decide) g6
      have g6 : (0 : Int32) ≤ (((24 : Int32) * p0) + p1) ∧ (((24 : Int32) * p0) + p1) < (984 : Int32) := g6
      refine ok_gd ?_ (fun g7 => ?_)
      · have c8 : (0 : Int32) ≤ (M5.1 27 0 ((((24 : Int32) * p0) + p1)).toNatClampNeg) ∧ (M5.1 27 0 ((((24 : Int32) * p0) + p1)).toNatClampNeg) ≤ (65535 : Int32) := hM5.at1 27 0 (((((24 : Int32) * p0) + p1)).toNatClampNeg)
        have c9 : (M5.1 27 0 ((((24 : Int32) * p0) + p1)).toNatClampNeg) = (M.1 27 0 ((((24 : Int32) * p0) + p1)).toNatClampNeg) := by rw [e4]; exact up_k (by decide)
        have c10 : (0 : Int32) ≤ (M.1 27 0 ((((24 : Int32) * p0) + p1)).toNatClampNeg) ∧ (M.1 27 0 ((((24 : Int32) * p0) + p1)).toNatClampNeg) ≤ (65535 : Int32) := hM.at1 27 0 (((((24 : Int32) * p0) + p1)).toNatClampNeg)
        exact okc_of (by grind) (by grind)
      have p11 : (0 : Int32) ≤ (M5.1 27 0 ((((24 : Int32) * p0) + p1)).toNatClampNeg) ∧ (M5.1 27 0 ((((24 : Int32) * p0) + p1)).toNatClampNeg) ≤ (65535 : Int32) := by
        have c12 : (0 : Int32) ≤ (M5.1 27 0 ((((24 : Int32) * p0) + p1)).toNatClampNeg) ∧ (M5.1 27 0 ((((24 : Int32) * p0) + p1)).toNatClampNeg) ≤ (65535 : Int32) := hM5.at1 27 0 (((((24 : Int32) * p0) + p1)).toNatClampNeg)
        have c13 : (M5.1 27 0 ((((24 : Int32) * p0) + p1)).toNatClampNeg) = (M.1 27 0 ((((24 : Int32) * p0) + p1)).toNatClampNeg) := by rw [e4]; exact up_k (by decide)
        have c14 : (0 : Int32) ≤ (M.1 27 0 ((((24 : Int32) * p0) + p1)).toNatClampNeg) ∧ (M.1 27 0 ((((24 : Int32) * p0) + p1)).toNatClampNeg) ≤ (65535 : Int32) := hM.at1 27 0 (((((24 : Int32) * p0) + p1)).toNatClampNeg)
        exact ⟨by grind, by grind⟩
      exact ok_some ⟨hM5, p11⟩
    · have p15 : (0 : Int32) ≤ (0 : Int32) ∧ (0 : Int32) ≤ (65535 : Int32) := by
        exact ⟨by grind, by grind⟩
      exact ok_some ⟨hM5, p15⟩
  · refine ok_gd ?_ (fun g16 => ?_)
    · exact vp_of (by decide) (by grind) (show p0 < (40 : Int32) by grind)
    have g16 := vp_to (by decide) g16
    have g16 : (0 : Int32) ≤ p0 ∧ p0 < (40 : Int32) := g16
    refine ok_ite (fun q17 => ?_) (fun q17 => ?_)
    · unfold f_X7_letter_J38
      unfold f_X7_letter_J43
      refine ok_lq (fun M5 e18 => ?_)
      have hM5 : IV A B M5 := by rw [e18]; exact hM.u1 rfl (a1) ⟨by decide, by decide⟩
      refine ok_ite (fun q19 => ?_) (fun q19 => ?_)
      · refine ok_gd ?_ (fun g20 => ?_)
        · have c21 : (0 : Int32) ≤ (M.1 43 0 (p0).toNatClampNeg) ∧ (M.1 43 0 (p0).toNatClampNeg) ≤ (1 : Int32) := hM.at1 43 0 ((p0).toNatClampNeg)
          exact vp_of (by decide) (by grind) (show (((24 : Int32) * p0) + p1) < (984 : Int32) by grind)
        have g20 := vp_to (by decide) g20
        have g20 : (0 : Int32) ≤ (((24 : Int32) * p0) + p1) ∧ (((24 : Int32) * p0) + p1) < (984 : Int32) := g20
        refine ok_gd ?_ (fun g22 => ?_)
        · have c23 : (0 : Int32) ≤ (M5.1 27 0 ((((24 : Int32) * p0) + p1)).toNatClampNeg) ∧ (M5.1 27 0 ((((24 : Int32) * p0) + p1)).toNatClampNeg) ≤ (65535 : Int32) := hM5.at1 27 0 (((((24 : Int32) * p0) + p1)).toNatClampNeg)
          have c24 : (M5.1 27 0 ((((24 : Int32) * p0) + p1)).toNatClampNeg) = (M.1 27 0 ((((24 : Int32) * p0) + p1)).toNatClampNeg) := by rw [e18]; exact up_k (by decide)
          have c25 : (0 : Int32) ≤ (M.1 43 0 (p0).toNatClampNeg) ∧ (M.1 43 0 (p0).toNatClampNeg) ≤ (1 : Int32) := hM.at1 43 0 ((p0).toNatClampNeg)
          have c26 : (0 : Int32) ≤ (M.1 27 0 ((((24 : Int32) * p0) + p1)).toNatClampNeg) ∧ (M.1 27 0 ((((24 : Int32) * p0) + p1)).toNatClampNeg) ≤ (65535 : Int32) := hM.at1 27 0 (((((24 : Int32) * p0) + p1)).toNatClampNeg)
          exact okc_of (by grind) (by grind)
        have p27 : (0 : Int32) ≤ (M5.1 27 0 ((((24 : Int32) * p0) + p1)).toNatClampNeg) ∧ (M5.1 27 0 ((((24 : Int32) * p0) + p1)).toNatClampNeg) ≤ (65535 : Int32) := by
          have c28 : (0 : Int32) ≤ (M5.1 27 0 ((((24 : Int32) * p0) + p1)).toNatClampNeg) ∧ (M5.1 27 0 ((((24 : Int32) * p0) + p1)).toNatClampNeg) ≤ (65535 : Int32) := hM5.at1 27 0 (((((24 : Int32) * p0) + p1)).toNatClampNeg)
          have c29 : (M5.1 27 0 ((((24 : Int32) * p0) + p1)).toNatClampNeg) = (M.1 27 0 ((((24 : Int32) * p0) + p1)).toNatClampNeg) := by rw [e18]; exact up_k (by decide)
          have c30 : (0 : Int32) ≤ (M.1 43 0 (p0).toNatClampNeg) ∧ (M.1 43 0 (p0).toNatClampNeg) ≤ (1 : Int32) := hM.at1 43 0 ((p0).toNatClampNeg)
          have c31 : (0 : Int32) ≤ (M.1 27 0 ((((24 : Int32) * p0) + p1)).toNatClampNeg) ∧ (M.1 27 0 ((((24 : Int32) * p0) + p1)).toNatClampNeg) ≤ (65535 : Int32) := hM.at1 27 0 (((((24 : Int32) * p0) + p1)).toNatClampNeg)
          exact ⟨by grind, by grind⟩
        exact ok_some ⟨hM5, p27⟩
      · have p32 : (0 : Int32) ≤ (0 : Int32) ∧ (0 : Int32) ≤ (65535 : Int32) := by
          exact ⟨by grind, by grind⟩
        exact ok_some ⟨hM5, p32⟩
    · refine ok_gd ?_ (fun g33 => ?_)
      · have c34 : (0 : Int32) ≤ (M.1 43 0 (p0).toNatClampNeg) ∧ (M.1 43 0 (p0).toNatClampNeg) ≤ (1 : Int32) := hM.at1 43 0 ((p0).toNatClampNeg)
        exact vp_of (by decide) (by grind) (show p0 < (41 : Int32) by grind)
      have g33 := vp_to (by decide) g33
      have g33 : (0 : Int32) ≤ p0 ∧ p0 < (41 : Int32) := g33
      have p35 : ((-1) : Int32) ≤ ((M.1 29 0 (p0).toNatClampNeg) - (1 : Int32)) ∧ ((M.1 29 0 (p0).toNatClampNeg) - (1 : Int32)) ≤ (999 : Int32) := by
        have c36 : (0 : Int32) ≤ (M.1 29 0 (p0).toNatClampNeg) ∧ (M.1 29 0 (p0).toNatClampNeg) ≤ (24 : Int32) := hM.at1 29 0 ((p0).toNatClampNeg)
        have c37 : (0 : Int32) ≤ (M.1 43 0 (p0).toNatClampNeg) ∧ (M.1 43 0 (p0).toNatClampNeg) ≤ (1 : Int32) := hM.at1 43 0 ((p0).toNatClampNeg)
        exact ⟨by grind, by grind⟩
      refine ok_b0 (s_X7_in p1 (0 : Int32) ⟨by decide, by decide⟩ ((M.1 29 0 (p0).toNatClampNeg) - (1 : Int32)) p35) (fun v14 w38 => ?_)
      have w39 : (0 : Int32) ≤ v14 ∧ v14 ≤ (1 : Int32) ∧ ((v14 = 0 ∧ ((0 : Int32) < (0 : Int32) ∨ ((M.1 29 0 (p0).toNatClampNeg) - (1 : Int32)) < (0 : Int32))) ∨ (v14 = 1 ∧ (0 : Int32) ≤ (0 : Int32) ∧ (0 : Int32) ≤ ((M.1 29 0 (p0).toNatClampNeg) - (1 : Int32)))) := w38
      refine ok_ite (fun q40 => ?_) (fun q40 => ?_)
      · unfold f_X7_letter_J38
        unfold f_X7_letter_J43
        refine ok_lq (fun M5 e41 => ?_)
        have hM5 : IV A B M5 := by rw [e41]; exact hM.u1 rfl (a1) ⟨by decide, by decide⟩
        refine ok_ite (fun q42 => ?_) (fun q42 => ?_)
        · refine ok_gd ?_ (fun g43 => ?_)
          · have c44 : (0 : Int32) ≤ (M.1 43 0 (p0).toNatClampNeg) ∧ (M.1 43 0 (p0).toNatClampNeg) ≤ (1 : Int32) := hM.at1 43 0 ((p0).toNatClampNeg)
            have c45 : (0 : Int32) ≤ (M.1 29 0 (p0).toNatClampNeg) ∧ (M.1 29 0 (p0).toNatClampNeg) ≤ (24 : Int32) := hM.at1 29 0 ((p0).toNatClampNeg)
            exact vp_of (by decide) (by grind) (show (((24 : Int32) * p0) + p1) < (984 : Int32) by grind)
          have g43 := vp_to (by decide) g43
          have g43 : (0 : Int32) ≤ (((24 : Int32) * p0) + p1) ∧ (((24 : Int32) * p0) + p1) < (984 : Int32) := g43
          refine ok_gd ?_ (fun g46 => ?_)
          · have c47 : (0 : Int32) ≤ (M5.1 27 0 ((((24 : Int32) * p0) + p1)).toNatClampNeg) ∧ (M5.1 27 0 ((((24 : Int32) * p0) + p1)).toNatClampNeg) ≤ (65535 : Int32) := hM5.at1 27 0 (((((24 : Int32) * p0) + p1)).toNatClampNeg)
            have c48 : (M5.1 27 0 ((((24 : Int32) * p0) + p1)).toNatClampNeg) = (M.1 27 0 ((((24 : Int32) * p0) + p1)).toNatClampNeg) := by rw [e41]; exact up_k (by decide)
            have c49 : (0 : Int32) ≤ (M.1 43 0 (p0).toNatClampNeg) ∧ (M.1 43 0 (p0).toNatClampNeg) ≤ (1 : Int32) := hM.at1 43 0 ((p0).toNatClampNeg)
            have c50 : (0 : Int32) ≤ (M.1 29 0 (p0).toNatClampNeg) ∧ (M.1 29 0 (p0).toNatClampNeg) ≤ (24 : Int32) := hM.at1 29 0 ((p0).toNatClampNeg)
            have c51 : (0 : Int32) ≤ (M.1 27 0 ((((24 : Int32) * p0) + p1)).toNatClampNeg) ∧ (M.1 27 0 ((((24 : Int32) * p0) + p1)).toNatClampNeg) ≤ (65535 : Int32) := hM.at1 27 0 (((((24 : Int32) * p0) + p1)).toNatClampNeg)
            exact okc_of (by grind) (by grind)
          have p52 : (0 : Int32) ≤ (M5.1 27 0 ((((24 : Int32) * p0) + p1)).toNatClampNeg) ∧ (M5.1 27 0 ((((24 : Int32) * p0) + p1)).toNatClampNeg) ≤ (65535 : Int32) := by
            have c53 : (0 : Int32) ≤ (M5.1 27 0 ((((24 : Int32) * p0) + p1)).toNatClampNeg) ∧ (M5.1 27 0 ((((24 : Int32) * p0) + p1)).toNatClampNeg) ≤ (65535 : Int32) := hM5.at1 27 0 (((((24 : Int32) * p0) + p1)).toNatClampNeg)
            have c54 : (M5.1 27 0 ((((24 : Int32) * p0) + p1)).toNatClampNeg) = (M.1 27 0 ((((24 : Int32) * p0) + p1)).toNatClampNeg) := by rw [e41]; exact up_k (by decide)
            have c55 : (0 : Int32) ≤ (M.1 43 0 (p0).toNatClampNeg) ∧ (M.1 43 0 (p0).toNatClampNeg) ≤ (1 : Int32) := hM.at1 43 0 ((p0).toNatClampNeg)
            have c56 : (0 : Int32) ≤ (M.1 29 0 (p0).toNatClampNeg) ∧ (M.1 29 0 (p0).toNatClampNeg) ≤ (24 : Int32) := hM.at1 29 0 ((p0).toNatClampNeg)
            have c57 : (0 : Int32) ≤ (M.1 27 0 ((((24 : Int32) * p0) + p1)).toNatClampNeg) ∧ (M.1 27 0 ((((24 : Int32) * p0) + p1)).toNatClampNeg) ≤ (65535 : Int32) := hM.at1 27 0 (((((24 : Int32) * p0) + p1)).toNatClampNeg)
            exact ⟨by grind, by grind⟩
          exact ok_some ⟨hM5, p52⟩
        · have p58 : (0 : Int32) ≤ (0 : Int32) ∧ (0 : Int32) ≤ (65535 : Int32) := by
            exact ⟨by grind, by grind⟩
          exact ok_some ⟨hM5, p58⟩
      · unfold f_X7_letter_J43
        refine ok_lq (fun M5 e59 => ?_)
        have hM5 : IV A B M5 := by rw [e59]; exact hM.u1 rfl (a1) ⟨by decide, by decide⟩
        refine ok_ite (fun q60 => ?_) (fun q60 => ?_)
        · refine ok_gd ?_ (fun g61 => ?_)
          · have c62 : (0 : Int32) ≤ (M.1 43 0 (p0).toNatClampNeg) ∧ (M.1 43 0 (p0).toNatClampNeg) ≤ (1 : Int32) := hM.at1 43 0 ((p0).toNatClampNeg)
            have c63 : (0 : Int32) ≤ (M.1 29 0 (p0).toNatClampNeg) ∧ (M.1 29 0 (p0).toNatClampNeg) ≤ (24 : Int32) := hM.at1 29 0 ((p0).toNatClampNeg)
            exact vp_of (by decide) (by grind) (show (((24 : Int32) * p0) + p1) < (984 : Int32) by grind)
          have g61 := vp_to (by decide) g61
          have g61 : (0 : Int32) ≤ (((24 : Int32) * p0) + p1) ∧ (((24 : Int32) * p0) + p1) < (984 : Int32) := g61
          refine ok_gd ?_ (fun g64 => ?_)
          · have c65 : (0 : Int32) ≤ (M5.1 27 0 ((((24 : Int32) * p0) + p1)).toNatClampNeg) ∧ (M5.1 27 0 ((((24 : Int32) * p0) + p1)).toNatClampNeg) ≤ (65535 : Int32) := hM5.at1 27 0 (((((24 : Int32) * p0) + p1)).toNatClampNeg)
            have c66 : (M5.1 27 0 ((((24 : Int32) * p0) + p1)).toNatClampNeg) = (M.1 27 0 ((((24 : Int32) * p0) + p1)).toNatClampNeg) := by rw [e59]; exact up_k (by decide)
            have c67 : (0 : Int32) ≤ (M.1 43 0 (p0).toNatClampNeg) ∧ (M.1 43 0 (p0).toNatClampNeg) ≤ (1 : Int32) := hM.at1 43 0 ((p0).toNatClampNeg)
            have c68 : (0 : Int32) ≤ (M.1 29 0 (p0).toNatClampNeg) ∧ (M.1 29 0 (p0).toNatClampNeg) ≤ (24 : Int32) := hM.at1 29 0 ((p0).toNatClampNeg)
            have c69 : (0 : Int32) ≤ (M.1 27 0 ((((24 : Int32) * p0) + p1)).toNatClampNeg) ∧ (M.1 27 0 ((((24 : Int32) * p0) + p1)).toNatClampNeg) ≤ (65535 : Int32) := hM.at1 27 0 (((((24 : Int32) * p0) + p1)).toNatClampNeg)
            exact okc_of (by grind) (by grind)
          have p70 : (0 : Int32) ≤ (M5.1 27 0 ((((24 : Int32) * p0) + p1)).toNatClampNeg) ∧ (M5.1 27 0 ((((24 : Int32) * p0) + p1)).toNatClampNeg) ≤ (65535 : Int32) := by
            have c71 : (0 : Int32) ≤ (M5.1 27 0 ((((24 : Int32) * p0) + p1)).toNatClampNeg) ∧ (M5.1 27 0 ((((24 : Int32) * p0) + p1)).toNatClampNeg) ≤ (65535 : Int32) := hM5.at1 27 0 (((((24 : Int32) * p0) + p1)).toNatClampNeg)
            have c72 : (M5.1 27 0 ((((24 : Int32) * p0) + p1)).toNatClampNeg) = (M.1 27 0 ((((24 : Int32) * p0) + p1)).toNatClampNeg) := by rw [e59]; exact up_k (by decide)
            have c73 : (0 : Int32) ≤ (M.1 43 0 (p0).toNatClampNeg) ∧ (M.1 43 0 (p0).toNatClampNeg) ≤ (1 : Int32) := hM.at1 43 0 ((p0).toNatClampNeg)
            have c74 : (0 : Int32) ≤ (M.1 29 0 (p0).toNatClampNeg) ∧ (M.1 29 0 (p0).toNatClampNeg) ≤ (24 : Int32) := hM.at1 29 0 ((p0).toNatClampNeg)
            have c75 : (0 : Int32) ≤ (M.1 27 0 ((((24 : Int32) * p0) + p1)).toNatClampNeg) ∧ (M.1 27 0 ((((24 : Int32) * p0) + p1)).toNatClampNeg) ≤ (65535 : Int32) := hM.at1 27 0 (((((24 : Int32) * p0) + p1)).toNatClampNeg)
            exact ⟨by grind, by grind⟩
          exact ok_some ⟨hM5, p70⟩
        · have p76 : (0 : Int32) ≤ (0 : Int32) ∧ (0 : Int32) ≤ (65535 : Int32) := by
            exact ⟨by grind, by grind⟩
          exact ok_some ⟨hM5, p76⟩
theorem s_X7_drop {A : Nat → Nat → Nat → Prop} {B : SS} (M : SS) (hM : IV A B M) (p0 : Int32) (a1 : A 26 0 38) (a2 : A 26 0 39) (a3 : A 26 0 40) (a4 : A 26 0 9) (a5 : A 42 0 (p0).toNatClampNeg) (a6 : A 43 0 (p0).toNatClampNeg) (a7 : ∀ p, A 44 0 p) (a8 : ∀ p, A 45 0 p) (a9 : ∀ p, A 53 0 p) (a10 : ∀ p, A 54 0 p) : ok (f_X7_drop M p0) (fun r => IV A B r.1 ∧ True) := by
  unfold f_X7_drop
  refine ok_b0 (s_X7_isWork M hM p0) (fun v1 w1 => ?_)
  have w2 : (0 : Int32) ≤ v1 ∧ v1 ≤ (1 : Int32) ∧ ((v1 = 0 ∧ (p0 < 0 ∨ (M.1 26 0 5) ≤ p0)) ∨ (v1 = 1 ∧ 0 ≤ p0 ∧ p0 < (M.1 26 0 5))) := w1
  refine ok_ite (fun q3 => ?_) (fun q3 => ?_)
  · refine ok_b1 (s_X7_fails M hM (1 : Int32) ⟨by decide, by decide⟩ (a4)) (fun M18 v17 w4 => ?_)
    have hM18 : IV A B M18 := w4.1
    have w5 : (0 : Int32) ≤ v17 ∧ v17 ≤ (0 : Int32) := w4.2
    exact ok_some ⟨hM18, trivial⟩
  · refine ok_gd ?_ (fun g6 => ?_)
    · exact vp_of (by decide) (by grind) (show p0 < (40 : Int32) by grind)
    have g6 := vp_to (by decide) g6
    have g6 : (0 : Int32) ≤ p0 ∧ p0 < (40 : Int32) := g6
    refine ok_ite (fun q7 => ?_) (fun q7 => ?_)
    · refine ok_b1 (s_X7_fails M hM (2 : Int32) ⟨by decide, by decide⟩ (a4)) (fun M15 v14 w8 => ?_)
      have hM15 : IV A B M15 := w8.1
      have w9 : (0 : Int32) ≤ v14 ∧ v14 ≤ (0 : Int32) := w8.2
      exact ok_some ⟨hM15, trivial⟩
    · have p10 : (0 : Int32) ≤ p0 ∧ p0 ≤ (39 : Int32) := by
        have c11 : (0 : Int32) ≤ (M.1 43 0 (p0).toNatClampNeg) ∧ (M.1 43 0 (p0).toNatClampNeg) ≤ (1 : Int32) := hM.at1 43 0 ((p0).toNatClampNeg)
        exact ⟨by grind, by grind⟩
      refine ok_b1 (s_X7_drops M hM p0 p10 (a1) (a2) (a3) (a5) (a6) (fun p => a7 p) (fun p => a8 p) (fun p => a9 p) (fun p => a10 p)) (fun M7 v6 w12 => ?_)
      have hM7 : IV A B M7 := w12.1
      have w13 : ((M7.1 43 0 (p0).toNatClampNeg) = 0) := w12.2
      refine ok_b0 (s_X7_bodyCount M7 hM7) (fun v9 w14 => ?_)
      refine ok_b1 (s_X7_tells M7 hM7 v9 (a4)) (fun M12 v11 w15 => ?_)
      have hM12 : IV A B M12 := w15.1
      exact ok_some ⟨hM12, trivial⟩
theorem s_X7_capacity {A : Nat → Nat → Nat → Prop} {B : SS} (M : SS) (hM : IV A B M) (p0 : Int32) (a1 : A 26 0 38) (a2 : A 26 0 39) (a3 : A 26 0 40) (a4 : A 26 0 6) (a5 : A 26 0 9) (a6 : ∀ p, A 42 0 p) (a7 : ∀ p, A 43 0 p) (a8 : ∀ p, A 44 0 p) (a9 : ∀ p, A 45 0 p) (a10 : ∀ p, A 53 0 p) (a11 : ∀ p, A 54 0 p) : ok (f_X7_capacity M p0) (fun r => IV A B r.1 ∧ True) := by
  unfold f_X7_capacity
  refine ok_b0 (s_X7_in p0 (1 : Int32) ⟨by decide, by decide⟩ (40 : Int32) ⟨by decide, by decide⟩) (fun v1 w1 => ?_)
  have w2 : (0 : Int32) ≤ v1 ∧ v1 ≤ (1 : Int32) ∧ ((v1 = 0 ∧ (p0 < (1 : Int32) ∨ (40 : Int32) < p0)) ∨ (v1 = 1 ∧ (1 : Int32) ≤ p0 ∧ p0 ≤ (40 : Int32))) := w1
  refine ok_ite (fun q3 => ?_) (fun q3 => ?_)
  · refine ok_b1 (s_X7_fails M hM (1 : Int32) ⟨by decide, by decide⟩ (a5)) (fun M12 v11 w4 => ?_)
    have hM12 : IV A B M12 := w4.1
    have w5 : (0 : Int32) ≤ v11 ∧ v11 ≤ (0 : Int32) := w4.2
    exact ok_some ⟨hM12, trivial⟩
  · refine ok_lq (fun M4 e6 => ?_)
    have p7 : (0 : Int32) ≤ p0 ∧ p0 ≤ (40 : Int32) := by
      exact ⟨by grind, by grind⟩
    have hM4 : IV A B M4 := by rw [e6]; exact hM.u1 rfl (a4) p7
    refine ok_b1 (s_X7_makesRoom M4 hM4 (a1) (a2) (a3) (fun p => a6 p) (fun p => a7 p) (fun p => a8 p) (fun p => a9 p) (fun p => a10 p) (fun p => a11 p)) (fun M6 v5 w8 => ?_)
    have hM6 : IV A B M6 := w8.1
    refine ok_b1 (s_X7_tells M6 hM6 v5 (a5)) (fun M9 v8 w9 => ?_)
    have hM9 : IV A B M9 := w9.1
    exact ok_some ⟨hM9, trivial⟩
theorem s_X7_bodies {A : Nat → Nat → Nat → Prop} {B : SS} (M : SS) (hM : IV A B M) (a1 : A 26 0 9) : ok (f_X7_bodies M) (fun r => IV A B r.1 ∧ True) := by
  unfold f_X7_bodies
  refine ok_b0 (s_X7_bodyCount M hM) (fun v1 w1 => ?_)
  refine ok_b1 (s_X7_tells M hM v1 (a1)) (fun M4 v3 w2 => ?_)
  have hM4 : IV A B M4 := w2.1
  exact ok_some ⟨hM4, trivial⟩
theorem s_X7_copyCount_L2 {A : Nat → Nat → Nat → Prop} {B : SS} (p0 : Int32) (ip0 : (0 : Int32) ≤ p0 ∧ p0 ≤ (9 : Int32)) (M : SS) (hM : IV A B M) : ∀ (n : Nat), ∀ (v3 : Int32) (k1 : (Int32 → Option (Int32))), (FU v3 3 n) → ((0 : Int32) ≤ v3 ∧ v3 ≤ (3 : Int32)) → (v3 = (3 : Int32) → ¬ (M.1 52 0 (((3 : Int32) * p0) + (2 : Int32)).toNatClampNeg) ≤ 0) → (∀ (k_0 : Int32), ((0 : Int32) ≤ k_0 ∧ k_0 ≤ (3 : Int32)) → ((M.1 52 0 (((3 : Int32) * p0) + (2 : Int32)).toNatClampNeg) ≤ 0 → k_0 ≤ (2 : Int32)) → ok (k1 k_0) (fun r => (0 : Int32) ≤ r ∧ r ≤ (3 : Int32) ∧ ((M.1 52 0 (((3 : Int32) * p0) + (2 : Int32)).toNatClampNeg) ≤ 0 → r ≤ (2 : Int32)))) → ok (f_X7_copyCount_L2 p0 M n v3 k1) (fun r => (0 : Int32) ≤ r ∧ r ≤ (3 : Int32) ∧ ((M.1 52 0 (((3 : Int32) * p0) + (2 : Int32)).toNatClampNeg) ≤ 0 → r ≤ (2 : Int32))) := by
  intro n
  induction n with
  | zero =>
    intro v3 k1 hF iv3 x0 hk
    exact (FU.stop hF (show v3 ≤ (3 : Int32) by grind)).elim
  | succ n ih =>
    intro v3 k1 hF iv3 x0 hk
    rw [f_X7_copyCount_L2]
    refine ok_ite (fun q1 => ?_) (fun q1 => ?_)
    · have p2 : (0 : Int32) ≤ v3 ∧ v3 ≤ (3 : Int32) := by
        exact ⟨by grind, by grind⟩
      have p3 : (M.1 52 0 (((3 : Int32) * p0) + (2 : Int32)).toNatClampNeg) ≤ 0 → v3 ≤ (2 : Int32) := by
        have c4 : (0 : Int32) ≤ (M.1 52 0 ((((3 : Int32) * p0) + (2 : Int32))).toNatClampNeg) ∧ (M.1 52 0 ((((3 : Int32) * p0) + (2 : Int32))).toNatClampNeg) ≤ (40 : Int32) := hM.at1 52 0 (((((3 : Int32) * p0) + (2 : Int32))).toNatClampNeg)
        grind
      exact hk v3 p2 p3
    · refine ok_gd ?_ (fun g5 => ?_)
      · have c6 : (0 : Int32) ≤ (M.1 52 0 ((((3 : Int32) * p0) + (2 : Int32))).toNatClampNeg) ∧ (M.1 52 0 ((((3 : Int32) * p0) + (2 : Int32))).toNatClampNeg) ≤ (40 : Int32) := hM.at1 52 0 (((((3 : Int32) * p0) + (2 : Int32))).toNatClampNeg)
        exact vp_of (by decide) (by grind) (show (((3 : Int32) * p0) + v3) < (30 : Int32) by grind)
      have g5 := vp_to (by decide) g5
      have g5 : (0 : Int32) ≤ (((3 : Int32) * p0) + v3) ∧ (((3 : Int32) * p0) + v3) < (30 : Int32) := g5
      refine ok_ite (fun q7 => ?_) (fun q7 => ?_)
      · have p8 : (0 : Int32) ≤ v3 ∧ v3 ≤ (3 : Int32) := by
          have c9 : (0 : Int32) ≤ (M.1 52 0 ((((3 : Int32) * p0) + v3)).toNatClampNeg) ∧ (M.1 52 0 ((((3 : Int32) * p0) + v3)).toNatClampNeg) ≤ (40 : Int32) := hM.at1 52 0 (((((3 : Int32) * p0) + v3)).toNatClampNeg)
          have c10 : (0 : Int32) ≤ (M.1 52 0 ((((3 : Int32) * p0) + (2 : Int32))).toNatClampNeg) ∧ (M.1 52 0 ((((3 : Int32) * p0) + (2 : Int32))).toNatClampNeg) ≤ (40 : Int32) := hM.at1 52 0 (((((3 : Int32) * p0) + (2 : Int32))).toNatClampNeg)
          exact ⟨by grind, by grind⟩
        have p11 : (M.1 52 0 (((3 : Int32) * p0) + (2 : Int32)).toNatClampNeg) ≤ 0 → v3 ≤ (2 : Int32) := by
          have c12 : (0 : Int32) ≤ (M.1 52 0 ((((3 : Int32) * p0) + (2 : Int32))).toNatClampNeg) ∧ (M.1 52 0 ((((3 : Int32) * p0) + (2 : Int32))).toNatClampNeg) ≤ (40 : Int32) := hM.at1 52 0 (((((3 : Int32) * p0) + (2 : Int32))).toNatClampNeg)
          have c13 : (0 : Int32) ≤ (M.1 52 0 ((((3 : Int32) * p0) + v3)).toNatClampNeg) ∧ (M.1 52 0 ((((3 : Int32) * p0) + v3)).toNatClampNeg) ≤ (40 : Int32) := hM.at1 52 0 (((((3 : Int32) * p0) + v3)).toNatClampNeg)
          grind
        exact hk v3 p8 p11
      · have p14 : FU (v3 + (1 : Int32)) 3 _ := by
          have c15 : (0 : Int32) ≤ (M.1 52 0 ((((3 : Int32) * p0) + v3)).toNatClampNeg) ∧ (M.1 52 0 ((((3 : Int32) * p0) + v3)).toNatClampNeg) ≤ (40 : Int32) := hM.at1 52 0 (((((3 : Int32) * p0) + v3)).toNatClampNeg)
          have c16 : (0 : Int32) ≤ (M.1 52 0 ((((3 : Int32) * p0) + (2 : Int32))).toNatClampNeg) ∧ (M.1 52 0 ((((3 : Int32) * p0) + (2 : Int32))).toNatClampNeg) ≤ (40 : Int32) := hM.at1 52 0 (((((3 : Int32) * p0) + (2 : Int32))).toNatClampNeg)
          exact FU.step hF (by grind)
        have p17 : (0 : Int32) ≤ (v3 + (1 : Int32)) ∧ (v3 + (1 : Int32)) ≤ (3 : Int32) := by
          have c18 : (0 : Int32) ≤ (M.1 52 0 ((((3 : Int32) * p0) + v3)).toNatClampNeg) ∧ (M.1 52 0 ((((3 : Int32) * p0) + v3)).toNatClampNeg) ≤ (40 : Int32) := hM.at1 52 0 (((((3 : Int32) * p0) + v3)).toNatClampNeg)
          have c19 : (0 : Int32) ≤ (M.1 52 0 ((((3 : Int32) * p0) + (2 : Int32))).toNatClampNeg) ∧ (M.1 52 0 ((((3 : Int32) * p0) + (2 : Int32))).toNatClampNeg) ≤ (40 : Int32) := hM.at1 52 0 (((((3 : Int32) * p0) + (2 : Int32))).toNatClampNeg)
          exact ⟨by grind, by grind⟩
        have p20 : (v3 + (1 : Int32)) = (3 : Int32) → ¬ (M.1 52 0 (((3 : Int32) * p0) + (2 : Int32)).toNatClampNeg) ≤ 0 := by
          have c21 : (0 : Int32) ≤ (M.1 52 0 ((((3 : Int32) * p0) + (2 : Int32))).toNatClampNeg) ∧ (M.1 52 0 ((((3 : Int32) * p0) + (2 : Int32))).toNatClampNeg) ≤ (40 : Int32) := hM.at1 52 0 (((((3 : Int32) * p0) + (2 : Int32))).toNatClampNeg)
          have c22 : (0 : Int32) ≤ (M.1 52 0 ((((3 : Int32) * p0) + v3)).toNatClampNeg) ∧ (M.1 52 0 ((((3 : Int32) * p0) + v3)).toNatClampNeg) ≤ (40 : Int32) := hM.at1 52 0 (((((3 : Int32) * p0) + v3)).toNatClampNeg)
          grind
        exact ih (v3 + (1 : Int32)) k1 p14 p17 p20 hk
theorem s_X7_copyCount {A : Nat → Nat → Nat → Prop} {B : SS} (M : SS) (hM : IV A B M) (p0 : Int32) (ip0 : (0 : Int32) ≤ p0 ∧ p0 ≤ (9 : Int32)) : ok (f_X7_copyCount M p0) (fun r => (0 : Int32) ≤ r ∧ r ≤ (3 : Int32) ∧ ((M.1 52 0 (((3 : Int32) * p0) + (2 : Int32)).toNatClampNeg) ≤ 0 → r ≤ (2 : Int32))) := by
  unfold f_X7_copyCount
  have p1 : (0 : Int32) ≤ p0 ∧ p0 ≤ (9 : Int32) := by
    exact ⟨by grind, by grind⟩
  have p2 : FU (0 : Int32) 3 1000 := by
    exact FU.start (by grind) (by decide)
  have p3 : (0 : Int32) = (3 : Int32) → ¬ (M.1 52 0 (((3 : Int32) * p0) + (2 : Int32)).toNatClampNeg) ≤ 0 := by
    have c4 : (0 : Int32) ≤ (M.1 52 0 ((((3 : Int32) * p0) + (2 : Int32))).toNatClampNeg) ∧ (M.1 52 0 ((((3 : Int32) * p0) + (2 : Int32))).toNatClampNeg) ≤ (40 : Int32) := hM.at1 52 0 (((((3 : Int32) * p0) + (2 : Int32))).toNatClampNeg)
    grind
  refine s_X7_copyCount_L2 p0 p1 M hM 1000 (0 : Int32) _ p2 ⟨by decide, by decide⟩ p3 (fun v2 wv2 ek => ?_)
  have wv2 : (0 : Int32) ≤ v2 ∧ v2 ≤ (3 : Int32) := wv2
  have e5 : (M.1 52 0 (((3 : Int32) * p0) + (2 : Int32)).toNatClampNeg) ≤ 0 → v2 ≤ (2 : Int32) := ek
  have p6 : (0 : Int32) ≤ v2 ∧ v2 ≤ (3 : Int32) ∧ ((M.1 52 0 (((3 : Int32) * p0) + (2 : Int32)).toNatClampNeg) ≤ 0 → v2 ≤ (2 : Int32)) := by
    have c7 : (0 : Int32) ≤ (M.1 52 0 ((((3 : Int32) * p0) + (2 : Int32))).toNatClampNeg) ∧ (M.1 52 0 ((((3 : Int32) * p0) + (2 : Int32))).toNatClampNeg) ≤ (40 : Int32) := hM.at1 52 0 (((((3 : Int32) * p0) + (2 : Int32))).toNatClampNeg)
    grind
  exact ok_some p6
theorem s_X7_hasCopy_L5 {A : Nat → Nat → Nat → Prop} {B : SS} (p0 : Int32) (ip0 : (0 : Int32) ≤ p0 ∧ p0 ≤ (9 : Int32)) (M : SS) (hM : IV A B M) (p1 : Int32) (ip1 : (0 : Int32) ≤ p1 ∧ p1 ≤ (39 : Int32)) : ∀ (n : Nat), ∀ (v3 : Int32) (v4 : Int32) (k1 : (Int32 → Option (Int32))), (FU v3 3 n) → ((0 : Int32) ≤ v3 ∧ v3 ≤ (3 : Int32)) → ((0 : Int32) ≤ v4 ∧ v4 ≤ (1 : Int32)) → (∀ (k_0 : Int32), ((0 : Int32) ≤ k_0 ∧ k_0 ≤ (1 : Int32)) → ok (k1 k_0) (fun r => (0 : Int32) ≤ r ∧ r ≤ (1 : Int32))) → ok (f_X7_hasCopy_L5 p0 M p1 n v3 v4 k1) (fun r => (0 : Int32) ≤ r ∧ r ≤ (1 : Int32)) := by
  intro n
  induction n with
  | zero =>
    intro v3 v4 k1 hF iv3 iv4 hk
    exact (FU.stop hF (show v3 ≤ (3 : Int32) by grind)).elim
  | succ n ih =>
    intro v3 v4 k1 hF iv3 iv4 hk
    rw [f_X7_hasCopy_L5]
    refine ok_ite (fun q1 => ?_) (fun q1 => ?_)
    · have p2 : (0 : Int32) ≤ v4 ∧ v4 ≤ (1 : Int32) := by
        exact ⟨by grind, by grind⟩
      exact hk v4 p2
    · refine ok_ite (fun q3 => ?_) (fun q3 => ?_)
      · refine ok_gd ?_ (fun g4 => ?_)
        · exact vp_of (by decide) (by grind) (show (((3 : Int32) * p0) + v3) < (30 : Int32) by grind)
        have g4 := vp_to (by decide) g4
        have g4 : (0 : Int32) ≤ (((3 : Int32) * p0) + v3) ∧ (((3 : Int32) * p0) + v3) < (30 : Int32) := g4
        refine ok_ite (fun q5 => ?_) (fun q5 => ?_)
        · have p6 : FU (v3 + (1 : Int32)) 3 _ := by
            have c7 : (0 : Int32) ≤ (M.1 52 0 ((((3 : Int32) * p0) + v3)).toNatClampNeg) ∧ (M.1 52 0 ((((3 : Int32) * p0) + v3)).toNatClampNeg) ≤ (40 : Int32) := hM.at1 52 0 (((((3 : Int32) * p0) + v3)).toNatClampNeg)
            exact FU.step hF (by grind)
          have p8 : (0 : Int32) ≤ (v3 + (1 : Int32)) ∧ (v3 + (1 : Int32)) ≤ (3 : Int32) := by
            have c9 : (0 : Int32) ≤ (M.1 52 0 ((((3 : Int32) * p0) + v3)).toNatClampNeg) ∧ (M.1 52 0 ((((3 : Int32) * p0) + v3)).toNatClampNeg) ≤ (40 : Int32) := hM.at1 52 0 (((((3 : Int32) * p0) + v3)).toNatClampNeg)
            exact ⟨by grind, by grind⟩
          exact ih (v3 + (1 : Int32)) (1 : Int32) k1 p6 p8 ⟨by decide, by decide⟩ hk
        · have p10 : FU (v3 + (1 : Int32)) 3 _ := by
            have c11 : (0 : Int32) ≤ (M.1 52 0 ((((3 : Int32) * p0) + v3)).toNatClampNeg) ∧ (M.1 52 0 ((((3 : Int32) * p0) + v3)).toNatClampNeg) ≤ (40 : Int32) := hM.at1 52 0 (((((3 : Int32) * p0) + v3)).toNatClampNeg)
            exact FU.step hF (by grind)
          have p12 : (0 : Int32) ≤ (v3 + (1 : Int32)) ∧ (v3 + (1 : Int32)) ≤ (3 : Int32) := by
            have c13 : (0 : Int32) ≤ (M.1 52 0 ((((3 : Int32) * p0) + v3)).toNatClampNeg) ∧ (M.1 52 0 ((((3 : Int32) * p0) + v3)).toNatClampNeg) ≤ (40 : Int32) := hM.at1 52 0 (((((3 : Int32) * p0) + v3)).toNatClampNeg)
            exact ⟨by grind, by grind⟩
          exact ih (v3 + (1 : Int32)) (0 : Int32) k1 p10 p12 ⟨by decide, by decide⟩ hk
      · have p14 : FU (v3 + (1 : Int32)) 3 _ := by
          exact FU.step hF (by grind)
        have p15 : (0 : Int32) ≤ (v3 + (1 : Int32)) ∧ (v3 + (1 : Int32)) ≤ (3 : Int32) := by
          exact ⟨by grind, by grind⟩
        exact ih (v3 + (1 : Int32)) (1 : Int32) k1 p14 p15 ⟨by decide, by decide⟩ hk
theorem s_X7_hasCopy {A : Nat → Nat → Nat → Prop} {B : SS} (M : SS) (hM : IV A B M) (p0 : Int32) (ip0 : (0 : Int32) ≤ p0 ∧ p0 ≤ (9 : Int32)) (p1 : Int32) (ip1 : (0 : Int32) ≤ p1 ∧ p1 ≤ (39 : Int32)) : ok (f_X7_hasCopy M p0 p1) (fun r => (0 : Int32) ≤ r ∧ r ≤ (1 : Int32)) := by
  unfold f_X7_hasCopy
  have p1 : (0 : Int32) ≤ p0 ∧ p0 ≤ (9 : Int32) := by
    exact ⟨by grind, by grind⟩
  have p2 : (0 : Int32) ≤ p1 ∧ p1 ≤ (39 : Int32) := by
    exact ⟨by grind, by grind⟩
  have p3 : FU (0 : Int32) 3 1000 := by
    exact FU.start (by grind) (by decide)
  refine s_X7_hasCopy_L5 p0 p1 M hM p1 p2 1000 (0 : Int32) (0 : Int32) _ p3 ⟨by decide, by decide⟩ ⟨by decide, by decide⟩ (fun v2 wv2 => ?_)
  have wv2 : (0 : Int32) ≤ v2 ∧ v2 ≤ (1 : Int32) := wv2
  refine ok_gd ?_ (fun g4 => ?_)
  · exact okz_of (by grind) (by grind)
  have p5 : (0 : Int32) ≤ v2 ∧ v2 ≤ (1 : Int32) := by
    exact ⟨by grind, by grind⟩
  exact ok_some p5
theorem s_X7_read_L106 {A : Nat → Nat → Nat → Prop} {B : SS} (v12 : Int32) (iv12 : (0 : Int32) ≤ v12 ∧ v12 ≤ (27 : Int32)) (a1 : ∀ p, A 52 0 p) : ∀ (n : Nat), ∀ (v23 : Int32) (M24 : SS) (k21 : (SS → Option (SS × Int32))), (FU v23 2 n) → ((0 : Int32) ≤ v23 ∧ v23 ≤ (2 : Int32)) → (IV A B M24) → (∀ (k_0 : SS), (IV A B k_0) → ok (k21 k_0) (fun r => IV A B r.1 ∧ True)) → ok (f_X7_read_L106 v12 n v23 M24 k21) (fun r => IV A B r.1 ∧ True) := by
  intro n
  induction n with
  | zero =>
    intro v23 M24 k21 hF iv23 hM24 hk
    exact (FU.stop hF (show v23 ≤ (2 : Int32) by grind)).elim
  | succ n ih =>
    intro v23 M24 k21 hF iv23 hM24 hk
    rw [f_X7_read_L106]
    refine ok_ite (fun q1 => ?_) (fun q1 => ?_)
    · exact hk M24 hM24
    · refine ok_gd ?_ (fun g2 => ?_)
      · exact vp_of (by decide) (by grind) (show ((v12 + v23) + (1 : Int32)) < (30 : Int32) by grind)
      have g2 := vp_to (by decide) g2
      have g2 : (0 : Int32) ≤ ((v12 + v23) + (1 : Int32)) ∧ ((v12 + v23) + (1 : Int32)) < (30 : Int32) := g2
      refine ok_gd ?_ (fun g3 => ?_)
      · exact vp_of (by decide) (by grind) (show (v12 + v23) < (30 : Int32) by grind)
      have g3 := vp_to (by decide) g3
      have g3 : (0 : Int32) ≤ (v12 + v23) ∧ (v12 + v23) < (30 : Int32) := g3
      refine ok_lq (fun M39 e4 => ?_)
      have p5 : (0 : Int32) ≤ (M24.1 52 0 (((v12 + v23) + (1 : Int32))).toNatClampNeg) ∧ (M24.1 52 0 (((v12 + v23) + (1 : Int32))).toNatClampNeg) ≤ (40 : Int32) := by
        have c6 : (0 : Int32) ≤ (M24.1 52 0 (((v12 + v23) + (1 : Int32))).toNatClampNeg) ∧ (M24.1 52 0 (((v12 + v23) + (1 : Int32))).toNatClampNeg) ≤ (40 : Int32) := hM24.at1 52 0 ((((v12 + v23) + (1 : Int32))).toNatClampNeg)
        exact ⟨by grind, by grind⟩
      have hM39 : IV A B M39 := by rw [e4]; exact hM24.u1 rfl (a1 (((v12 + v23)).toNatClampNeg)) p5
      have p7 : FU (v23 + (1 : Int32)) 2 _ := by
        exact FU.step hF (by grind)
      have p8 : (0 : Int32) ≤ (v23 + (1 : Int32)) ∧ (v23 + (1 : Int32)) ≤ (2 : Int32) := by
        exact ⟨by grind, by grind⟩
      exact ih (v23 + (1 : Int32)) M39 k21 p7 p8 hM39 hk
theorem s_X7_read_L65 {A : Nat → Nat → Nat → Prop} {B : SS} (v13 : Int32) (iv13 : (0 : Int32) ≤ v13 ∧ v13 ≤ (3 : Int32)) (v12 : Int32) (iv12 : (0 : Int32) ≤ v12 ∧ v12 ≤ (27 : Int32)) (M : SS) (hM : IV A B M) (p1 : Int32) (ip1 : (0 : Int32) ≤ p1 ∧ p1 ≤ (39 : Int32)) : ∀ (n : Nat), ∀ (v19 : Int32) (v20 : Int32) (k17 : (Int32 → Option (SS × Int32))), (FU v19 3 n) → ((0 : Int32) ≤ v19 ∧ v19 ≤ (3 : Int32)) → ((0 : Int32) ≤ v20 ∧ v20 ≤ (2 : Int32)) → (∀ (k_0 : Int32), ((0 : Int32) ≤ k_0 ∧ k_0 ≤ (2 : Int32)) → ok (k17 k_0) (fun r => IV A B r.1 ∧ True)) → ok (f_X7_read_L65 v13 v12 M p1 n v19 v20 k17) (fun r => IV A B r.1 ∧ True) := by
  intro n
  induction n with
  | zero =>
    intro v19 v20 k17 hF iv19 iv20 hk
    exact (FU.stop hF (show v19 ≤ (3 : Int32) by grind)).elim
  | succ n ih =>
    intro v19 v20 k17 hF iv19 iv20 hk
    rw [f_X7_read_L65]
    refine ok_ite (fun q1 => ?_) (fun q1 => ?_)
    · have p2 : (0 : Int32) ≤ v20 ∧ v20 ≤ (2 : Int32) := by
        exact ⟨by grind, by grind⟩
      exact hk v20 p2
    · refine ok_gd ?_ (fun g3 => ?_)
      · exact vp_of (by decide) (by grind) (show (v12 + v19) < (30 : Int32) by grind)
      have g3 := vp_to (by decide) g3
      have g3 : (0 : Int32) ≤ (v12 + v19) ∧ (v12 + v19) < (30 : Int32) := g3
      refine ok_ite (fun q4 => ?_) (fun q4 => ?_)
      · have p5 : FU (v19 + (1 : Int32)) 3 _ := by
          have c6 : (0 : Int32) ≤ (M.1 52 0 ((v12 + v19)).toNatClampNeg) ∧ (M.1 52 0 ((v12 + v19)).toNatClampNeg) ≤ (40 : Int32) := hM.at1 52 0 (((v12 + v19)).toNatClampNeg)
          exact FU.step hF (by grind)
        have p7 : (0 : Int32) ≤ (v19 + (1 : Int32)) ∧ (v19 + (1 : Int32)) ≤ (3 : Int32) := by
          have c8 : (0 : Int32) ≤ (M.1 52 0 ((v12 + v19)).toNatClampNeg) ∧ (M.1 52 0 ((v12 + v19)).toNatClampNeg) ≤ (40 : Int32) := hM.at1 52 0 (((v12 + v19)).toNatClampNeg)
          exact ⟨by grind, by grind⟩
        have p9 : (0 : Int32) ≤ v19 ∧ v19 ≤ (2 : Int32) := by
          have c10 : (0 : Int32) ≤ (M.1 52 0 ((v12 + v19)).toNatClampNeg) ∧ (M.1 52 0 ((v12 + v19)).toNatClampNeg) ≤ (40 : Int32) := hM.at1 52 0 (((v12 + v19)).toNatClampNeg)
          exact ⟨by grind, by grind⟩
        exact ih (v19 + (1 : Int32)) v19 k17 p5 p7 p9 hk
      · have p11 : FU (v19 + (1 : Int32)) 3 _ := by
          have c12 : (0 : Int32) ≤ (M.1 52 0 ((v12 + v19)).toNatClampNeg) ∧ (M.1 52 0 ((v12 + v19)).toNatClampNeg) ≤ (40 : Int32) := hM.at1 52 0 (((v12 + v19)).toNatClampNeg)
          exact FU.step hF (by grind)
        have p13 : (0 : Int32) ≤ (v19 + (1 : Int32)) ∧ (v19 + (1 : Int32)) ≤ (3 : Int32) := by
          have c14 : (0 : Int32) ≤ (M.1 52 0 ((v12 + v19)).toNatClampNeg) ∧ (M.1 52 0 ((v12 + v19)).toNatClampNeg) ≤ (40 : Int32) := hM.at1 52 0 (((v12 + v19)).toNatClampNeg)
          exact ⟨by grind, by grind⟩
        have p15 : (0 : Int32) ≤ v20 ∧ v20 ≤ (2 : Int32) := by
          exact ⟨by grind, by grind⟩
        exact ih (v19 + (1 : Int32)) v20 k17 p11 p13 p15 hk
theorem s_X7_read {A : Nat → Nat → Nat → Prop} {B : SS} (M : SS) (hM : IV A B M) (p0 : Int32) (p1 : Int32) (a1 : A 26 0 9) (a2 : ∀ p, A 52 0 p) : ok (f_X7_read M p0 p1) (fun r => IV A B r.1 ∧ True) := by
  unfold f_X7_read
  refine ok_b0 (s_X7_isMember M hM p0) (fun v1 w1 => ?_)
  have w2 : (0 : Int32) ≤ v1 ∧ v1 ≤ (1 : Int32) ∧ ((v1 = 0 ∧ (p0 < 0 ∨ (M.1 26 0 4) ≤ p0)) ∨ (v1 = 1 ∧ 0 ≤ p0 ∧ p0 < (M.1 26 0 4))) := w1
  refine ok_ite (fun q3 => ?_) (fun q3 => ?_)
  · refine ok_b1 (s_X7_fails M hM (1 : Int32) ⟨by decide, by decide⟩ (a1)) (fun M5 v4 w4 => ?_)
    have hM5 : IV A B M5 := w4.1
    have w5 : (0 : Int32) ≤ v4 ∧ v4 ≤ (0 : Int32) := w4.2
    exact ok_some ⟨hM5, trivial⟩
  · refine ok_b0 (s_X7_isWork M hM p1) (fun v7 w6 => ?_)
    have w7 : (0 : Int32) ≤ v7 ∧ v7 ≤ (1 : Int32) ∧ ((v7 = 0 ∧ (p1 < 0 ∨ (M.1 26 0 5) ≤ p1)) ∨ (v7 = 1 ∧ 0 ≤ p1 ∧ p1 < (M.1 26 0 5))) := w6
    refine ok_ite (fun q8 => ?_) (fun q8 => ?_)
    · refine ok_b1 (s_X7_fails M hM (1 : Int32) ⟨by decide, by decide⟩ (a1)) (fun M48 v47 w9 => ?_)
      have hM48 : IV A B M48 := w9.1
      have w10 : (0 : Int32) ≤ v47 ∧ v47 ≤ (0 : Int32) := w9.2
      exact ok_some ⟨hM48, trivial⟩
    · refine ok_gd ?_ (fun g11 => ?_)
      · exact vp_of (by decide) (by grind) (show p1 < (40 : Int32) by grind)
      have g11 := vp_to (by decide) g11
      have g11 : (0 : Int32) ≤ p1 ∧ p1 < (40 : Int32) := g11
      refine ok_ite (fun q12 => ?_) (fun q12 => ?_)
      · refine ok_b1 (s_X7_fails M hM (2 : Int32) ⟨by decide, by decide⟩ (a1)) (fun M45 v44 w13 => ?_)
        have hM45 : IV A B M45 := w13.1
        have w14 : (0 : Int32) ≤ v44 ∧ v44 ≤ (0 : Int32) := w13.2
        exact ok_some ⟨hM45, trivial⟩
      · refine ok_lq (fun v12 e15 => ?_)
        have p16 : (0 : Int32) ≤ p0 ∧ p0 ≤ (9 : Int32) := by
          exact ⟨by grind, by grind⟩
        refine ok_b0 (s_X7_copyCount M hM p0 p16) (fun v13 w17 => ?_)
        have w18 : (0 : Int32) ≤ v13 ∧ v13 ≤ (3 : Int32) ∧ ((M.1 52 0 (((3 : Int32) * p0) + (2 : Int32)).toNatClampNeg) ≤ 0 → v13 ≤ (2 : Int32)) := w17
        refine ok_ite (fun q19 => ?_) (fun q19 => ?_)
        · unfold f_X7_read_J60
          have p20 : (0 : Int32) ≤ v13 ∧ v13 ≤ (3 : Int32) := by
            exact ⟨by grind, by grind⟩
          have p21 : (0 : Int32) ≤ v12 ∧ v12 ≤ (27 : Int32) := by
            exact ⟨by grind, by grind⟩
          have p22 : (0 : Int32) ≤ p1 ∧ p1 ≤ (39 : Int32) := by
            have c23 : (0 : Int32) ≤ (M.1 43 0 (p1).toNatClampNeg) ∧ (M.1 43 0 (p1).toNatClampNeg) ≤ (1 : Int32) := hM.at1 43 0 ((p1).toNatClampNeg)
            exact ⟨by grind, by grind⟩
          have p24 : FU (0 : Int32) 3 1000 := by
            exact FU.start (by grind) (by decide)
          refine s_X7_read_L65 v13 p20 v12 p21 M hM p1 p22 1000 (0 : Int32) (0 : Int32) _ p24 ⟨by decide, by decide⟩ ⟨by decide, by decide⟩ (fun v18 wv18 => ?_)
          have wv18 : (0 : Int32) ≤ v18 ∧ v18 ≤ (2 : Int32) := wv18
          have p25 : (0 : Int32) ≤ v12 ∧ v12 ≤ (27 : Int32) := by
            exact ⟨by grind, by grind⟩
          have p26 : FU v18 2 1000 := by
            exact FU.start (by grind) (by decide)
          have p27 : (0 : Int32) ≤ v18 ∧ v18 ≤ (2 : Int32) := by
            exact ⟨by grind, by grind⟩
          refine s_X7_read_L106 v12 p25 (fun p => a2 p) 1000 v18 M _ p26 p27 hM (fun M22 hM22 => ?_)
          refine ok_gd ?_ (fun g28 => ?_)
          · exact vp_of (by decide) (by grind) (show ((v12 + (3 : Int32)) - (1 : Int32)) < (30 : Int32) by grind)
          have g28 := vp_to (by decide) g28
          have g28 : (0 : Int32) ≤ ((v12 + (3 : Int32)) - (1 : Int32)) ∧ ((v12 + (3 : Int32)) - (1 : Int32)) < (30 : Int32) := g28
          refine ok_lq (fun M26 e29 => ?_)
          have hM26 : IV A B M26 := by rw [e29]; exact hM22.u1 rfl (a2 ((((v12 + (3 : Int32)) - (1 : Int32))).toNatClampNeg)) ⟨by decide, by decide⟩
          have p30 : (0 : Int32) ≤ p0 ∧ p0 ≤ (9 : Int32) := by
            have c31 : (0 : Int32) ≤ (M.1 52 0 ((((3 : Int32) * p0) + (2 : Int32))).toNatClampNeg) ∧ (M.1 52 0 ((((3 : Int32) * p0) + (2 : Int32))).toNatClampNeg) ≤ (40 : Int32) := hM.at1 52 0 (((((3 : Int32) * p0) + (2 : Int32))).toNatClampNeg)
            exact ⟨by grind, by grind⟩
          refine ok_b0 (s_X7_copyCount M26 hM26 p0 p30) (fun v27 w32 => ?_)
          have w33 : (0 : Int32) ≤ v27 ∧ v27 ≤ (3 : Int32) ∧ ((M26.1 52 0 (((3 : Int32) * p0) + (2 : Int32)).toNatClampNeg) ≤ 0 → v27 ≤ (2 : Int32)) := w32
          refine ok_gd ?_ (fun g34 => ?_)
          · exact vp_of (by decide) (by grind) (show (v12 + v27) < (30 : Int32) by grind)
          have g34 := vp_to (by decide) g34
          have g34 : (0 : Int32) ≤ (v12 + v27) ∧ (v12 + v27) < (30 : Int32) := g34
          refine ok_lq (fun M30 e35 => ?_)
          have p36 : (0 : Int32) ≤ (p1 + (1 : Int32)) ∧ (p1 + (1 : Int32)) ≤ (40 : Int32) := by
            have c37 : (0 : Int32) ≤ (M.1 43 0 (p1).toNatClampNeg) ∧ (M.1 43 0 (p1).toNatClampNeg) ≤ (1 : Int32) := hM.at1 43 0 ((p1).toNatClampNeg)
            exact ⟨by grind, by grind⟩
          have hM30 : IV A B M30 := by rw [e35]; exact hM26.u1 rfl (a2 (((v12 + v27)).toNatClampNeg)) p36
          have p38 : (0 : Int32) ≤ p0 ∧ p0 ≤ (9 : Int32) := by
            have c39 : (0 : Int32) ≤ (M.1 52 0 ((((3 : Int32) * p0) + (2 : Int32))).toNatClampNeg) ∧ (M.1 52 0 ((((3 : Int32) * p0) + (2 : Int32))).toNatClampNeg) ≤ (40 : Int32) := hM.at1 52 0 (((((3 : Int32) * p0) + (2 : Int32))).toNatClampNeg)
            have c40 : (0 : Int32) ≤ (M26.1 52 0 ((((3 : Int32) * p0) + (2 : Int32))).toNatClampNeg) ∧ (M26.1 52 0 ((((3 : Int32) * p0) + (2 : Int32))).toNatClampNeg) ≤ (40 : Int32) := hM26.at1 52 0 (((((3 : Int32) * p0) + (2 : Int32))).toNatClampNeg)
            exact ⟨by grind, by grind⟩
          refine ok_b0 (s_X7_copyCount M30 hM30 p0 p38) (fun v31 w41 => ?_)
          have w42 : (0 : Int32) ≤ v31 ∧ v31 ≤ (3 : Int32) ∧ ((M30.1 52 0 (((3 : Int32) * p0) + (2 : Int32)).toNatClampNeg) ≤ 0 → v31 ≤ (2 : Int32)) := w41
          refine ok_b1 (s_X7_tells M30 hM30 v31 (a1)) (fun M34 v33 w43 => ?_)
          have hM34 : IV A B M34 := w43.1
          exact ok_some ⟨hM34, trivial⟩
        · unfold f_X7_read_J60
          have p44 : (0 : Int32) ≤ v13 ∧ v13 ≤ (3 : Int32) := by
            exact ⟨by grind, by grind⟩
          have p45 : (0 : Int32) ≤ v12 ∧ v12 ≤ (27 : Int32) := by
            exact ⟨by grind, by grind⟩
          have p46 : (0 : Int32) ≤ p1 ∧ p1 ≤ (39 : Int32) := by
            have c47 : (0 : Int32) ≤ (M.1 43 0 (p1).toNatClampNeg) ∧ (M.1 43 0 (p1).toNatClampNeg) ≤ (1 : Int32) := hM.at1 43 0 ((p1).toNatClampNeg)
            exact ⟨by grind, by grind⟩
          have p48 : FU (0 : Int32) 3 1000 := by
            exact FU.start (by grind) (by decide)
          have p49 : (0 : Int32) ≤ v13 ∧ v13 ≤ (2 : Int32) := by
            exact ⟨by grind, by grind⟩
          refine s_X7_read_L65 v13 p44 v12 p45 M hM p1 p46 1000 (0 : Int32) v13 _ p48 ⟨by decide, by decide⟩ p49 (fun v18 wv18 => ?_)
          have wv18 : (0 : Int32) ≤ v18 ∧ v18 ≤ (2 : Int32) := wv18
          have p50 : (0 : Int32) ≤ v12 ∧ v12 ≤ (27 : Int32) := by
            exact ⟨by grind, by grind⟩
          have p51 : FU v18 2 1000 := by
            exact FU.start (by grind) (by decide)
          have p52 : (0 : Int32) ≤ v18 ∧ v18 ≤ (2 : Int32) := by
            exact ⟨by grind, by grind⟩
          refine s_X7_read_L106 v12 p50 (fun p => a2 p) 1000 v18 M _ p51 p52 hM (fun M22 hM22 => ?_)
          refine ok_gd ?_ (fun g53 => ?_)
          · exact vp_of (by decide) (by grind) (show ((v12 + (3 : Int32)) - (1 : Int32)) < (30 : Int32) by grind)
          have g53 := vp_to (by decide) g53
          have g53 : (0 : Int32) ≤ ((v12 + (3 : Int32)) - (1 : Int32)) ∧ ((v12 + (3 : Int32)) - (1 : Int32)) < (30 : Int32) := g53
          refine ok_lq (fun M26 e54 => ?_)
          have hM26 : IV A B M26 := by rw [e54]; exact hM22.u1 rfl (a2 ((((v12 + (3 : Int32)) - (1 : Int32))).toNatClampNeg)) ⟨by decide, by decide⟩
          have p55 : (0 : Int32) ≤ p0 ∧ p0 ≤ (9 : Int32) := by
            have c56 : (0 : Int32) ≤ (M.1 52 0 ((((3 : Int32) * p0) + (2 : Int32))).toNatClampNeg) ∧ (M.1 52 0 ((((3 : Int32) * p0) + (2 : Int32))).toNatClampNeg) ≤ (40 : Int32) := hM.at1 52 0 (((((3 : Int32) * p0) + (2 : Int32))).toNatClampNeg)
            exact ⟨by grind, by grind⟩
          refine ok_b0 (s_X7_copyCount M26 hM26 p0 p55) (fun v27 w57 => ?_)
          have w58 : (0 : Int32) ≤ v27 ∧ v27 ≤ (3 : Int32) ∧ ((M26.1 52 0 (((3 : Int32) * p0) + (2 : Int32)).toNatClampNeg) ≤ 0 → v27 ≤ (2 : Int32)) := w57
          refine ok_gd ?_ (fun g59 => ?_)
          · exact vp_of (by decide) (by grind) (show (v12 + v27) < (30 : Int32) by grind)
          have g59 := vp_to (by decide) g59
          have g59 : (0 : Int32) ≤ (v12 + v27) ∧ (v12 + v27) < (30 : Int32) := g59
          refine ok_lq (fun M30 e60 => ?_)
          have p61 : (0 : Int32) ≤ (p1 + (1 : Int32)) ∧ (p1 + (1 : Int32)) ≤ (40 : Int32) := by
            have c62 : (0 : Int32) ≤ (M.1 43 0 (p1).toNatClampNeg) ∧ (M.1 43 0 (p1).toNatClampNeg) ≤ (1 : Int32) := hM.at1 43 0 ((p1).toNatClampNeg)
            exact ⟨by grind, by grind⟩
          have hM30 : IV A B M30 := by rw [e60]; exact hM26.u1 rfl (a2 (((v12 + v27)).toNatClampNeg)) p61
          have p63 : (0 : Int32) ≤ p0 ∧ p0 ≤ (9 : Int32) := by
            have c64 : (0 : Int32) ≤ (M.1 52 0 ((((3 : Int32) * p0) + (2 : Int32))).toNatClampNeg) ∧ (M.1 52 0 ((((3 : Int32) * p0) + (2 : Int32))).toNatClampNeg) ≤ (40 : Int32) := hM.at1 52 0 (((((3 : Int32) * p0) + (2 : Int32))).toNatClampNeg)
            have c65 : (0 : Int32) ≤ (M26.1 52 0 ((((3 : Int32) * p0) + (2 : Int32))).toNatClampNeg) ∧ (M26.1 52 0 ((((3 : Int32) * p0) + (2 : Int32))).toNatClampNeg) ≤ (40 : Int32) := hM26.at1 52 0 (((((3 : Int32) * p0) + (2 : Int32))).toNatClampNeg)
            exact ⟨by grind, by grind⟩
          refine ok_b0 (s_X7_copyCount M30 hM30 p0 p63) (fun v31 w66 => ?_)
          have w67 : (0 : Int32) ≤ v31 ∧ v31 ≤ (3 : Int32) ∧ ((M30.1 52 0 (((3 : Int32) * p0) + (2 : Int32)).toNatClampNeg) ≤ 0 → v31 ≤ (2 : Int32)) := w66
          refine ok_b1 (s_X7_tells M30 hM30 v31 (a1)) (fun M34 v33 w68 => ?_)
          have hM34 : IV A B M34 := w68.1
          exact ok_some ⟨hM34, trivial⟩
theorem s_X7_copy {A : Nat → Nat → Nat → Prop} {B : SS} (M : SS) (hM : IV A B M) (p0 : Int32) (p1 : Int32) (a1 : A 26 0 9) : ok (f_X7_copy M p0 p1) (fun r => IV A B r.1 ∧ True) := by
  unfold f_X7_copy
  refine ok_b0 (s_X7_isMember M hM p0) (fun v1 w1 => ?_)
  have w2 : (0 : Int32) ≤ v1 ∧ v1 ≤ (1 : Int32) ∧ ((v1 = 0 ∧ (p0 < 0 ∨ (M.1 26 0 4) ≤ p0)) ∨ (v1 = 1 ∧ 0 ≤ p0 ∧ p0 < (M.1 26 0 4))) := w1
  refine ok_ite (fun q3 => ?_) (fun q3 => ?_)
  · refine ok_b1 (s_X7_fails M hM (1 : Int32) ⟨by decide, by decide⟩ (a1)) (fun M17 v16 w4 => ?_)
    have hM17 : IV A B M17 := w4.1
    have w5 : (0 : Int32) ≤ v16 ∧ v16 ≤ (0 : Int32) := w4.2
    exact ok_some ⟨hM17, trivial⟩
  · have p6 : (0 : Int32) ≤ p0 ∧ p0 ≤ (9 : Int32) := by
      exact ⟨by grind, by grind⟩
    refine ok_b0 (s_X7_copyCount M hM p0 p6) (fun v4 w7 => ?_)
    have w8 : (0 : Int32) ≤ v4 ∧ v4 ≤ (3 : Int32) ∧ ((M.1 52 0 (((3 : Int32) * p0) + (2 : Int32)).toNatClampNeg) ≤ 0 → v4 ≤ (2 : Int32)) := w7
    have p9 : ((-1) : Int32) ≤ (v4 - (1 : Int32)) ∧ (v4 - (1 : Int32)) ≤ (999 : Int32) := by
      exact ⟨by grind, by grind⟩
    refine ok_b0 (s_X7_in p1 (0 : Int32) ⟨by decide, by decide⟩ (v4 - (1 : Int32)) p9) (fun v6 w10 => ?_)
    have w11 : (0 : Int32) ≤ v6 ∧ v6 ≤ (1 : Int32) ∧ ((v6 = 0 ∧ ((0 : Int32) < (0 : Int32) ∨ (v4 - (1 : Int32)) < (0 : Int32))) ∨ (v6 = 1 ∧ (0 : Int32) ≤ (0 : Int32) ∧ (0 : Int32) ≤ (v4 - (1 : Int32)))) := w10
    refine ok_ite (fun q12 => ?_) (fun q12 => ?_)
    · refine ok_b1 (s_X7_fails M hM (2 : Int32) ⟨by decide, by decide⟩ (a1)) (fun M10 v9 w13 => ?_)
      have hM10 : IV A B M10 := w13.1
      have w14 : (0 : Int32) ≤ v9 ∧ v9 ≤ (0 : Int32) := w13.2
      exact ok_some ⟨hM10, trivial⟩
    · refine ok_gd ?_ (fun g15 => ?_)
      · have c16 : (0 : Int32) ≤ (M.1 52 0 ((((3 : Int32) * p0) + (2 : Int32))).toNatClampNeg) ∧ (M.1 52 0 ((((3 : Int32) * p0) + (2 : Int32))).toNatClampNeg) ≤ (40 : Int32) := hM.at1 52 0 (((((3 : Int32) * p0) + (2 : Int32))).toNatClampNeg)
        exact vp_of (by decide) (by grind) (show (((3 : Int32) * p0) + p1) < (30 : Int32) by grind)
      have g15 := vp_to (by decide) g15
      have g15 : (0 : Int32) ≤ (((3 : Int32) * p0) + p1) ∧ (((3 : Int32) * p0) + p1) < (30 : Int32) := g15
      refine ok_b1 (s_X7_tells M hM ((M.1 52 0 ((((3 : Int32) * p0) + p1)).toNatClampNeg) - (1 : Int32)) (a1)) (fun M14 v13 w17 => ?_)
      have hM14 : IV A B M14 := w17.1
      exact ok_some ⟨hM14, trivial⟩
theorem s_X7_counts {A : Nat → Nat → Nat → Prop} {B : SS} (M : SS) (hM : IV A B M) (p0 : Int32) (ip0 : (0 : Int32) ≤ p0 ∧ p0 ≤ (39 : Int32)) : ok (f_X7_counts M p0) (fun r => (0 : Int32) ≤ r ∧ r ≤ (1 : Int32)) := by
  unfold f_X7_counts
  refine ok_gd ?_ (fun g1 => ?_)
  · exact vp_of (by decide) (by grind) (show p0 < (40 : Int32) by grind)
  have g1 := vp_to (by decide) g1
  have g1 : (0 : Int32) ≤ p0 ∧ p0 < (40 : Int32) := g1
  refine ok_ite (fun q2 => ?_) (fun q2 => ?_)
  · have p3 : (0 : Int32) ≤ (1 : Int32) ∧ (1 : Int32) ≤ (1 : Int32) := by
      exact ⟨by grind, by grind⟩
    exact ok_some p3
  · refine ok_gd ?_ (fun g4 => ?_)
    · have c5 : (0 : Int32) ≤ (M.1 42 0 (p0).toNatClampNeg) ∧ (M.1 42 0 (p0).toNatClampNeg) ≤ (65535 : Int32) := hM.at1 42 0 ((p0).toNatClampNeg)
      exact vp_of (by decide) (by grind) (show p0 < (40 : Int32) by grind)
    have g4 := vp_to (by decide) g4
    have g4 : (0 : Int32) ≤ p0 ∧ p0 < (40 : Int32) := g4
    refine ok_ite (fun q6 => ?_) (fun q6 => ?_)
    · have p7 : (0 : Int32) ≤ (1 : Int32) ∧ (1 : Int32) ≤ (1 : Int32) := by
        exact ⟨by grind, by grind⟩
      exact ok_some p7
    · refine ok_gd ?_ (fun g8 => ?_)
      · have c9 : (0 : Int32) ≤ (M.1 42 0 (p0).toNatClampNeg) ∧ (M.1 42 0 (p0).toNatClampNeg) ≤ (65535 : Int32) := hM.at1 42 0 ((p0).toNatClampNeg)
        exact vp_of (by decide) (by grind) (show p0 < (40 : Int32) by grind)
      have g8 := vp_to (by decide) g8
      have g8 : (0 : Int32) ≤ p0 ∧ p0 < (40 : Int32) := g8
      refine ok_ite (fun q10 => ?_) (fun q10 => ?_)
      · have p11 : (0 : Int32) ≤ (1 : Int32) ∧ (1 : Int32) ≤ (1 : Int32) := by
          exact ⟨by grind, by grind⟩
        exact ok_some p11
      · have p12 : (0 : Int32) ≤ (0 : Int32) ∧ (0 : Int32) ≤ (1 : Int32) := by
          exact ⟨by grind, by grind⟩
        exact ok_some p12
theorem s_X7_isGreater {A : Nat → Nat → Nat → Prop} {B : SS} (M : SS) (hM : IV A B M) (p0 : Int32) (ip0 : (0 : Int32) ≤ p0 ∧ p0 ≤ (39 : Int32)) (p1 : Int32) (ip1 : (0 : Int32) ≤ p1 ∧ p1 ≤ (39 : Int32)) : ok (f_X7_isGreater M p0 p1) (fun r => (0 : Int32) ≤ r ∧ r ≤ (1 : Int32)) := by
  unfold f_X7_isGreater
  have p1 : (0 : Int32) ≤ p0 ∧ p0 ≤ (39 : Int32) := by
    exact ⟨by grind, by grind⟩
  refine ok_b0 (s_X7_weightOf M hM p0 p1) (fun v1 w2 => ?_)
  have w3 : ((0 : Int32) ≤ v1 ∧ v1 ≤ (60 : Int32)) := w2
  refine ok_ite (fun q4 => ?_) (fun q4 => ?_)
  · unfold f_X7_isGreater_J17
    have p5 : (0 : Int32) ≤ p1 ∧ p1 ≤ (39 : Int32) := by
      exact ⟨by grind, by grind⟩
    refine ok_b0 (s_X7_weightOf M hM p1 p5) (fun v5 w6 => ?_)
    have w7 : ((0 : Int32) ≤ v5 ∧ v5 ≤ (60 : Int32)) := w6
    refine ok_ite (fun q8 => ?_) (fun q8 => ?_)
    · unfold f_X7_isGreater_J35
      have p9 : (0 : Int32) ≤ p0 ∧ p0 ≤ (39 : Int32) := by
        exact ⟨by grind, by grind⟩
      refine ok_b0 (s_X7_weightOf M hM p0 p9) (fun v9 w10 => ?_)
      have w11 : ((0 : Int32) ≤ v9 ∧ v9 ≤ (60 : Int32)) := w10
      refine ok_ite (fun q12 => ?_) (fun q12 => ?_)
      · unfold f_X7_isGreater_J54
        have p13 : (0 : Int32) ≤ p1 ∧ p1 ≤ (39 : Int32) := by
          exact ⟨by grind, by grind⟩
        refine ok_b0 (s_X7_weightOf M hM p1 p13) (fun v13 w14 => ?_)
        have w15 : ((0 : Int32) ≤ v13 ∧ v13 ≤ (60 : Int32)) := w14
        refine ok_ite (fun q16 => ?_) (fun q16 => ?_)
        · unfold f_X7_isGreater_J73
          refine ok_ite (fun q17 => ?_) (fun q17 => ?_)
          · have p18 : (0 : Int32) ≤ (0 : Int32) ∧ (0 : Int32) ≤ (1 : Int32) := by
              exact ⟨by grind, by grind⟩
            exact ok_some p18
          · have p19 : (0 : Int32) ≤ (1 : Int32) ∧ (1 : Int32) ≤ (1 : Int32) := by
              exact ⟨by grind, by grind⟩
            exact ok_some p19
        · have p20 : (0 : Int32) ≤ p1 ∧ p1 ≤ (39 : Int32) := by
            exact ⟨by grind, by grind⟩
          refine ok_b0 (s_X7_weighed M hM p1 p20) (fun v19 w21 => ?_)
          unfold f_X7_isGreater_J73
          refine ok_ite (fun q22 => ?_) (fun q22 => ?_)
          · have p23 : (0 : Int32) ≤ (0 : Int32) ∧ (0 : Int32) ≤ (1 : Int32) := by
              exact ⟨by grind, by grind⟩
            exact ok_some p23
          · have p24 : (0 : Int32) ≤ (1 : Int32) ∧ (1 : Int32) ≤ (1 : Int32) := by
              exact ⟨by grind, by grind⟩
            exact ok_some p24
      · have p25 : (0 : Int32) ≤ p0 ∧ p0 ≤ (39 : Int32) := by
          exact ⟨by grind, by grind⟩
        refine ok_b0 (s_X7_weighed M hM p0 p25) (fun v22 w26 => ?_)
        unfold f_X7_isGreater_J54
        have p27 : (0 : Int32) ≤ p1 ∧ p1 ≤ (39 : Int32) := by
          exact ⟨by grind, by grind⟩
        refine ok_b0 (s_X7_weightOf M hM p1 p27) (fun v13 w28 => ?_)
        have w29 : ((0 : Int32) ≤ v13 ∧ v13 ≤ (60 : Int32)) := w28
        refine ok_ite (fun q30 => ?_) (fun q30 => ?_)
        · unfold f_X7_isGreater_J73
          refine ok_ite (fun q31 => ?_) (fun q31 => ?_)
          · have p32 : (0 : Int32) ≤ (0 : Int32) ∧ (0 : Int32) ≤ (1 : Int32) := by
              exact ⟨by grind, by grind⟩
            exact ok_some p32
          · have p33 : (0 : Int32) ≤ (1 : Int32) ∧ (1 : Int32) ≤ (1 : Int32) := by
              exact ⟨by grind, by grind⟩
            exact ok_some p33
        · have p34 : (0 : Int32) ≤ p1 ∧ p1 ≤ (39 : Int32) := by
            exact ⟨by grind, by grind⟩
          refine ok_b0 (s_X7_weighed M hM p1 p34) (fun v19 w35 => ?_)
          unfold f_X7_isGreater_J73
          refine ok_ite (fun q36 => ?_) (fun q36 => ?_)
          · have p37 : (0 : Int32) ≤ (0 : Int32) ∧ (0 : Int32) ≤ (1 : Int32) := by
              exact ⟨by grind, by grind⟩
            exact ok_some p37
          · have p38 : (0 : Int32) ≤ (1 : Int32) ∧ (1 : Int32) ≤ (1 : Int32) := by
              exact ⟨by grind, by grind⟩
            exact ok_some p38
    · have p39 : (0 : Int32) ≤ p1 ∧ p1 ≤ (39 : Int32) := by
        exact ⟨by grind, by grind⟩
      refine ok_b0 (s_X7_weightOf M hM p1 p39) (fun v25 w40 => ?_)
      have w41 : ((0 : Int32) ≤ v25 ∧ v25 ≤ (60 : Int32)) := w40
      unfold f_X7_isGreater_J35
      have p42 : (0 : Int32) ≤ p0 ∧ p0 ≤ (39 : Int32) := by
        exact ⟨by grind, by grind⟩
      refine ok_b0 (s_X7_weightOf M hM p0 p42) (fun v9 w43 => ?_)
      have w44 : ((0 : Int32) ≤ v9 ∧ v9 ≤ (60 : Int32)) := w43
      refine ok_ite (fun q45 => ?_) (fun q45 => ?_)
      · unfold f_X7_isGreater_J54
        have p46 : (0 : Int32) ≤ p1 ∧ p1 ≤ (39 : Int32) := by
          exact ⟨by grind, by grind⟩
        refine ok_b0 (s_X7_weightOf M hM p1 p46) (fun v13 w47 => ?_)
        have w48 : ((0 : Int32) ≤ v13 ∧ v13 ≤ (60 : Int32)) := w47
        refine ok_ite (fun q49 => ?_) (fun q49 => ?_)
        · unfold f_X7_isGreater_J73
          refine ok_ite (fun q50 => ?_) (fun q50 => ?_)
          · have p51 : (0 : Int32) ≤ (0 : Int32) ∧ (0 : Int32) ≤ (1 : Int32) := by
              exact ⟨by grind, by grind⟩
            exact ok_some p51
          · have p52 : (0 : Int32) ≤ (1 : Int32) ∧ (1 : Int32) ≤ (1 : Int32) := by
              exact ⟨by grind, by grind⟩
            exact ok_some p52
        · have p53 : (0 : Int32) ≤ p1 ∧ p1 ≤ (39 : Int32) := by
            exact ⟨by grind, by grind⟩
          refine ok_b0 (s_X7_weighed M hM p1 p53) (fun v19 w54 => ?_)
          unfold f_X7_isGreater_J73
          refine ok_ite (fun q55 => ?_) (fun q55 => ?_)
          · have p56 : (0 : Int32) ≤ (0 : Int32) ∧ (0 : Int32) ≤ (1 : Int32) := by
              exact ⟨by grind, by grind⟩
            exact ok_some p56
          · have p57 : (0 : Int32) ≤ (1 : Int32) ∧ (1 : Int32) ≤ (1 : Int32) := by
              exact ⟨by grind, by grind⟩
            exact ok_some p57
      · have p58 : (0 : Int32) ≤ p0 ∧ p0 ≤ (39 : Int32) := by
          exact ⟨by grind, by grind⟩
        refine ok_b0 (s_X7_weighed M hM p0 p58) (fun v22 w59 => ?_)
        unfold f_X7_isGreater_J54
        have p60 : (0 : Int32) ≤ p1 ∧ p1 ≤ (39 : Int32) := by
          exact ⟨by grind, by grind⟩
        refine ok_b0 (s_X7_weightOf M hM p1 p60) (fun v13 w61 => ?_)
        have w62 : ((0 : Int32) ≤ v13 ∧ v13 ≤ (60 : Int32)) := w61
        refine ok_ite (fun q63 => ?_) (fun q63 => ?_)
        · unfold f_X7_isGreater_J73
          refine ok_ite (fun q64 => ?_) (fun q64 => ?_)
          · have p65 : (0 : Int32) ≤ (0 : Int32) ∧ (0 : Int32) ≤ (1 : Int32) := by
              exact ⟨by grind, by grind⟩
            exact ok_some p65
          · have p66 : (0 : Int32) ≤ (1 : Int32) ∧ (1 : Int32) ≤ (1 : Int32) := by
              exact ⟨by grind, by grind⟩
            exact ok_some p66
        · have p67 : (0 : Int32) ≤ p1 ∧ p1 ≤ (39 : Int32) := by
            exact ⟨by grind, by grind⟩
          refine ok_b0 (s_X7_weighed M hM p1 p67) (fun v19 w68 => ?_)
          unfold f_X7_isGreater_J73
          refine ok_ite (fun q69 => ?_) (fun q69 => ?_)
          · have p70 : (0 : Int32) ≤ (0 : Int32) ∧ (0 : Int32) ≤ (1 : Int32) := by
              exact ⟨by grind, by grind⟩
            exact ok_some p70
          · have p71 : (0 : Int32) ≤ (1 : Int32) ∧ (1 : Int32) ≤ (1 : Int32) := by
              exact ⟨by grind, by grind⟩
            exact ok_some p71
  · have p72 : (0 : Int32) ≤ p0 ∧ p0 ≤ (39 : Int32) := by
      exact ⟨by grind, by grind⟩
    refine ok_b0 (s_X7_weightOf M hM p0 p72) (fun v28 w73 => ?_)
    have w74 : ((0 : Int32) ≤ v28 ∧ v28 ≤ (60 : Int32)) := w73
    unfold f_X7_isGreater_J17
    have p75 : (0 : Int32) ≤ p1 ∧ p1 ≤ (39 : Int32) := by
      exact ⟨by grind, by grind⟩
    refine ok_b0 (s_X7_weightOf M hM p1 p75) (fun v5 w76 => ?_)
    have w77 : ((0 : Int32) ≤ v5 ∧ v5 ≤ (60 : Int32)) := w76
    refine ok_ite (fun q78 => ?_) (fun q78 => ?_)
    · unfold f_X7_isGreater_J35
      have p79 : (0 : Int32) ≤ p0 ∧ p0 ≤ (39 : Int32) := by
        exact ⟨by grind, by grind⟩
      refine ok_b0 (s_X7_weightOf M hM p0 p79) (fun v9 w80 => ?_)
      have w81 : ((0 : Int32) ≤ v9 ∧ v9 ≤ (60 : Int32)) := w80
      refine ok_ite (fun q82 => ?_) (fun q82 => ?_)
      · unfold f_X7_isGreater_J54
        have p83 : (0 : Int32) ≤ p1 ∧ p1 ≤ (39 : Int32) := by
          exact ⟨by grind, by grind⟩
        refine ok_b0 (s_X7_weightOf M hM p1 p83) (fun v13 w84 => ?_)
        have w85 : ((0 : Int32) ≤ v13 ∧ v13 ≤ (60 : Int32)) := w84
        refine ok_ite (fun q86 => ?_) (fun q86 => ?_)
        · unfold f_X7_isGreater_J73
          refine ok_ite (fun q87 => ?_) (fun q87 => ?_)
          · have p88 : (0 : Int32) ≤ (0 : Int32) ∧ (0 : Int32) ≤ (1 : Int32) := by
              exact ⟨by grind, by grind⟩
            exact ok_some p88
          · have p89 : (0 : Int32) ≤ (1 : Int32) ∧ (1 : Int32) ≤ (1 : Int32) := by
              exact ⟨by grind, by grind⟩
            exact ok_some p89
        · have p90 : (0 : Int32) ≤ p1 ∧ p1 ≤ (39 : Int32) := by
            exact ⟨by grind, by grind⟩
          refine ok_b0 (s_X7_weighed M hM p1 p90) (fun v19 w91 => ?_)
          unfold f_X7_isGreater_J73
          refine ok_ite (fun q92 => ?_) (fun q92 => ?_)
          · have p93 : (0 : Int32) ≤ (0 : Int32) ∧ (0 : Int32) ≤ (1 : Int32) := by
              exact ⟨by grind, by grind⟩
            exact ok_some p93
          · have p94 : (0 : Int32) ≤ (1 : Int32) ∧ (1 : Int32) ≤ (1 : Int32) := by
              exact ⟨by grind, by grind⟩
            exact ok_some p94
      · have p95 : (0 : Int32) ≤ p0 ∧ p0 ≤ (39 : Int32) := by
          exact ⟨by grind, by grind⟩
        refine ok_b0 (s_X7_weighed M hM p0 p95) (fun v22 w96 => ?_)
        unfold f_X7_isGreater_J54
        have p97 : (0 : Int32) ≤ p1 ∧ p1 ≤ (39 : Int32) := by
          exact ⟨by grind, by grind⟩
        refine ok_b0 (s_X7_weightOf M hM p1 p97) (fun v13 w98 => ?_)
        have w99 : ((0 : Int32) ≤ v13 ∧ v13 ≤ (60 : Int32)) := w98
        refine ok_ite (fun q100 => ?_) (fun q100 => ?_)
        · unfold f_X7_isGreater_J73
          refine ok_ite (fun q101 => ?_) (fun q101 => ?_)
          · have p102 : (0 : Int32) ≤ (0 : Int32) ∧ (0 : Int32) ≤ (1 : Int32) := by
              exact ⟨by grind, by grind⟩
            exact ok_some p102
          · have p103 : (0 : Int32) ≤ (1 : Int32) ∧ (1 : Int32) ≤ (1 : Int32) := by
              exact ⟨by grind, by grind⟩
            exact ok_some p103
        · have p104 : (0 : Int32) ≤ p1 ∧ p1 ≤ (39 : Int32) := by
            exact ⟨by grind, by grind⟩
          refine ok_b0 (s_X7_weighed M hM p1 p104) (fun v19 w105 => ?_)
          unfold f_X7_isGreater_J73
          refine ok_ite (fun q106 => ?_) (fun q106 => ?_)
          · have p107 : (0 : Int32) ≤ (0 : Int32) ∧ (0 : Int32) ≤ (1 : Int32) := by
              exact ⟨by grind, by grind⟩
            exact ok_some p107
          · have p108 : (0 : Int32) ≤ (1 : Int32) ∧ (1 : Int32) ≤ (1 : Int32) := by
              exact ⟨by grind, by grind⟩
            exact ok_some p108
    · have p109 : (0 : Int32) ≤ p1 ∧ p1 ≤ (39 : Int32) := by
        exact ⟨by grind, by grind⟩
      refine ok_b0 (s_X7_weightOf M hM p1 p109) (fun v25 w110 => ?_)
      have w111 : ((0 : Int32) ≤ v25 ∧ v25 ≤ (60 : Int32)) := w110
      unfold f_X7_isGreater_J35
      have p112 : (0 : Int32) ≤ p0 ∧ p0 ≤ (39 : Int32) := by
        exact ⟨by grind, by grind⟩
      refine ok_b0 (s_X7_weightOf M hM p0 p112) (fun v9 w113 => ?_)
      have w114 : ((0 : Int32) ≤ v9 ∧ v9 ≤ (60 : Int32)) := w113
      refine ok_ite (fun q115 => ?_) (fun q115 => ?_)
      · unfold f_X7_isGreater_J54
        have p116 : (0 : Int32) ≤ p1 ∧ p1 ≤ (39 : Int32) := by
          exact ⟨by grind, by grind⟩
        refine ok_b0 (s_X7_weightOf M hM p1 p116) (fun v13 w117 => ?_)
        have w118 : ((0 : Int32) ≤ v13 ∧ v13 ≤ (60 : Int32)) := w117
        refine ok_ite (fun q119 => ?_) (fun q119 => ?_)
        · unfold f_X7_isGreater_J73
          refine ok_ite (fun q120 => ?_) (fun q120 => ?_)
          · have p121 : (0 : Int32) ≤ (0 : Int32) ∧ (0 : Int32) ≤ (1 : Int32) := by
              exact ⟨by grind, by grind⟩
            exact ok_some p121
          · have p122 : (0 : Int32) ≤ (1 : Int32) ∧ (1 : Int32) ≤ (1 : Int32) := by
              exact ⟨by grind, by grind⟩
            exact ok_some p122
        · have p123 : (0 : Int32) ≤ p1 ∧ p1 ≤ (39 : Int32) := by
            exact ⟨by grind, by grind⟩
          refine ok_b0 (s_X7_weighed M hM p1 p123) (fun v19 w124 => ?_)
          unfold f_X7_isGreater_J73
          refine ok_ite (fun q125 => ?_) (fun q125 => ?_)
          · have p126 : (0 : Int32) ≤ (0 : Int32) ∧ (0 : Int32) ≤ (1 : Int32) := by
              exact ⟨by grind, by grind⟩
            exact ok_some p126
          · have p127 : (0 : Int32) ≤ (1 : Int32) ∧ (1 : Int32) ≤ (1 : Int32) := by
              exact ⟨by grind, by grind⟩
            exact ok_some p127
      · have p128 : (0 : Int32) ≤ p0 ∧ p0 ≤ (39 : Int32) := by
          exact ⟨by grind, by grind⟩
        refine ok_b0 (s_X7_weighed M hM p0 p128) (fun v22 w129 => ?_)
        unfold f_X7_isGreater_J54
        have p130 : (0 : Int32) ≤ p1 ∧ p1 ≤ (39 : Int32) := by
          exact ⟨by grind, by grind⟩
        refine ok_b0 (s_X7_weightOf M hM p1 p130) (fun v13 w131 => ?_)
        have w132 : ((0 : Int32) ≤ v13 ∧ v13 ≤ (60 : Int32)) := w131
        refine ok_ite (fun q133 => ?_) (fun q133 => ?_)
        · unfold f_X7_isGreater_J73
          refine ok_ite (fun q134 => ?_) (fun q134 => ?_)
          · have p135 : (0 : Int32) ≤ (0 : Int32) ∧ (0 : Int32) ≤ (1 : Int32) := by
              exact ⟨by grind, by grind⟩
            exact ok_some p135
          · have p136 : (0 : Int32) ≤ (1 : Int32) ∧ (1 : Int32) ≤ (1 : Int32) := by
              exact ⟨by grind, by grind⟩
            exact ok_some p136
        · have p137 : (0 : Int32) ≤ p1 ∧ p1 ≤ (39 : Int32) := by
            exact ⟨by grind, by grind⟩
          refine ok_b0 (s_X7_weighed M hM p1 p137) (fun v19 w138 => ?_)
          unfold f_X7_isGreater_J73
          refine ok_ite (fun q139 => ?_) (fun q139 => ?_)
          · have p140 : (0 : Int32) ≤ (0 : Int32) ∧ (0 : Int32) ≤ (1 : Int32) := by
              exact ⟨by grind, by grind⟩
            exact ok_some p140
          · have p141 : (0 : Int32) ≤ (1 : Int32) ∧ (1 : Int32) ≤ (1 : Int32) := by
              exact ⟨by grind, by grind⟩
            exact ok_some p141
theorem s_X7_bestOf_J50 {A : Nat → Nat → Nat → Prop} {B : SS} {n : Nat} (rc : Int32 → Int32 → (Int32 → Option (Int32)) → Option (Int32)) (hrc : ∀ (v3 : Int32) (v4 : Int32) (k1 : (Int32 → Option (Int32))), (FU v3 40 n) → ((0 : Int32) ≤ v3 ∧ v3 ≤ (40 : Int32)) → (((-1) : Int32) ≤ v4 ∧ v4 ≤ (39 : Int32)) → (∀ (k_0 : Int32), (((-1) : Int32) ≤ k_0 ∧ k_0 ≤ (39 : Int32)) → ok (k1 k_0) (fun r => ((-1) : Int32) ≤ r ∧ r ≤ (39 : Int32))) → ok (rc v3 v4 k1) (fun r => ((-1) : Int32) ≤ r ∧ r ≤ (39 : Int32))) (k1 : Int32 → Option (Int32)) (hk : ∀ (k_0 : Int32), (((-1) : Int32) ≤ k_0 ∧ k_0 ≤ (39 : Int32)) → ok (k1 k_0) (fun r => ((-1) : Int32) ≤ r ∧ r ≤ (39 : Int32))) (v3 : Int32) (iv3 : (0 : Int32) ≤ v3 ∧ v3 ≤ (39 : Int32)) (v4 : Int32) (iv4 : ((-1) : Int32) ≤ v4 ∧ v4 ≤ (39 : Int32)) (M : SS) (hM : IV A B M) (v7 : Int32) (iv7 : (0 : Int32) ≤ v7 ∧ v7 ≤ (1 : Int32)) (hF : FU v3 40 (n + 1)) : ok (f_X7_bestOf_J50 rc k1 v3 v4 M v7) (fun r => ((-1) : Int32) ≤ r ∧ r ≤ (39 : Int32)) := by
  unfold f_X7_bestOf_J50
  refine ok_ite (fun q1 => ?_) (fun q1 => ?_)
  · have p2 : FU (v3 + (1 : Int32)) 40 _ := by
      exact FU.step hF (by grind)
    have p3 : (0 : Int32) ≤ (v3 + (1 : Int32)) ∧ (v3 + (1 : Int32)) ≤ (40 : Int32) := by
      exact ⟨by grind, by grind⟩
    have p4 : ((-1) : Int32) ≤ v4 ∧ v4 ≤ (39 : Int32) := by
      exact ⟨by grind, by grind⟩
    exact hrc (v3 + (1 : Int32)) v4 k1 p2 p3 p4 hk
  · refine ok_ite (fun q5 => ?_) (fun q5 => ?_)
    · have p6 : FU (v3 + (1 : Int32)) 40 _ := by
        exact FU.step hF (by grind)
      have p7 : (0 : Int32) ≤ (v3 + (1 : Int32)) ∧ (v3 + (1 : Int32)) ≤ (40 : Int32) := by
        exact ⟨by grind, by grind⟩
      have p8 : ((-1) : Int32) ≤ v3 ∧ v3 ≤ (39 : Int32) := by
        exact ⟨by grind, by grind⟩
      exact hrc (v3 + (1 : Int32)) v3 k1 p6 p7 p8 hk
    · have p9 : (0 : Int32) ≤ v3 ∧ v3 ≤ (39 : Int32) := by
        exact ⟨by grind, by grind⟩
      have p10 : (0 : Int32) ≤ v4 ∧ v4 ≤ (39 : Int32) := by
        exact ⟨by grind, by grind⟩
      refine ok_b0 (s_X7_isGreater M hM v3 p9 v4 p10) (fun v11 w11 => ?_)
      have w12 : (0 : Int32) ≤ v11 ∧ v11 ≤ (1 : Int32) := w11
      refine ok_ite (fun q13 => ?_) (fun q13 => ?_)
      · have p14 : FU (v3 + (1 : Int32)) 40 _ := by
          exact FU.step hF (by grind)
        have p15 : (0 : Int32) ≤ (v3 + (1 : Int32)) ∧ (v3 + (1 : Int32)) ≤ (40 : Int32) := by
          exact ⟨by grind, by grind⟩
        have p16 : ((-1) : Int32) ≤ v4 ∧ v4 ≤ (39 : Int32) := by
          exact ⟨by grind, by grind⟩
        exact hrc (v3 + (1 : Int32)) v4 k1 p14 p15 p16 hk
      · have p17 : FU (v3 + (1 : Int32)) 40 _ := by
          exact FU.step hF (by grind)
        have p18 : (0 : Int32) ≤ (v3 + (1 : Int32)) ∧ (v3 + (1 : Int32)) ≤ (40 : Int32) := by
          exact ⟨by grind, by grind⟩
        have p19 : ((-1) : Int32) ≤ v3 ∧ v3 ≤ (39 : Int32) := by
          exact ⟨by grind, by grind⟩
        exact hrc (v3 + (1 : Int32)) v3 k1 p17 p18 p19 hk
theorem s_X7_bestOf_J49 {A : Nat → Nat → Nat → Prop} {B : SS} {n : Nat} (rc : Int32 → Int32 → (Int32 → Option (Int32)) → Option (Int32)) (hrc : ∀ (v3 : Int32) (v4 : Int32) (k1 : (Int32 → Option (Int32))), (FU v3 40 n) → ((0 : Int32) ≤ v3 ∧ v3 ≤ (40 : Int32)) → (((-1) : Int32) ≤ v4 ∧ v4 ≤ (39 : Int32)) → (∀ (k_0 : Int32), (((-1) : Int32) ≤ k_0 ∧ k_0 ≤ (39 : Int32)) → ok (k1 k_0) (fun r => ((-1) : Int32) ≤ r ∧ r ≤ (39 : Int32))) → ok (rc v3 v4 k1) (fun r => ((-1) : Int32) ≤ r ∧ r ≤ (39 : Int32))) (k1 : Int32 → Option (Int32)) (hk : ∀ (k_0 : Int32), (((-1) : Int32) ≤ k_0 ∧ k_0 ≤ (39 : Int32)) → ok (k1 k_0) (fun r => ((-1) : Int32) ≤ r ∧ r ≤ (39 : Int32))) (v3 : Int32) (iv3 : (0 : Int32) ≤ v3 ∧ v3 ≤ (39 : Int32)) (v4 : Int32) (iv4 : ((-1) : Int32) ≤ v4 ∧ v4 ≤ (39 : Int32)) (M : SS) (hM : IV A B M) (hF : FU v3 40 (n + 1)) : ok (f_X7_bestOf_J49 rc k1 v3 v4 M) (fun r => ((-1) : Int32) ≤ r ∧ r ≤ (39 : Int32)) := by
  unfold f_X7_bestOf_J49
  have p1 : (0 : Int32) ≤ v3 ∧ v3 ≤ (39 : Int32) := by
    exact ⟨by grind, by grind⟩
  have p2 : ((-1) : Int32) ≤ v4 ∧ v4 ≤ (39 : Int32) := by
    exact ⟨by grind, by grind⟩
  exact s_X7_bestOf_J50 (n := _) rc hrc k1 hk v3 p1 v4 p2 M hM (0 : Int32) ⟨by decide, by decide⟩ hF
theorem s_X7_bestOf_L5 {A : Nat → Nat → Nat → Prop} {B : SS} (M : SS) (hM : IV A B M) (p0 : Int32) (p1 : Int32) (ip1 : (0 : Int32) ≤ p1 ∧ p1 ≤ (7 : Int32)) : ∀ (n : Nat), ∀ (v3 : Int32) (v4 : Int32) (k1 : (Int32 → Option (Int32))), (FU v3 40 n) → ((0 : Int32) ≤ v3 ∧ v3 ≤ (40 : Int32)) → (((-1) : Int32) ≤ v4 ∧ v4 ≤ (39 : Int32)) → (∀ (k_0 : Int32), (((-1) : Int32) ≤ k_0 ∧ k_0 ≤ (39 : Int32)) → ok (k1 k_0) (fun r => ((-1) : Int32) ≤ r ∧ r ≤ (39 : Int32))) → ok (f_X7_bestOf_L5 M p0 p1 n v3 v4 k1) (fun r => ((-1) : Int32) ≤ r ∧ r ≤ (39 : Int32)) := by
  intro n
  induction n with
  | zero =>
    intro v3 v4 k1 hF iv3 iv4 hk
    exact (FU.stop hF (show v3 ≤ (40 : Int32) by grind)).elim
  | succ n ih =>
    intro v3 v4 k1 hF iv3 iv4 hk
    rw [f_X7_bestOf_L5]
    refine ok_ite (fun q1 => ?_) (fun q1 => ?_)
    · have p2 : ((-1) : Int32) ≤ v4 ∧ v4 ≤ (39 : Int32) := by
        exact ⟨by grind, by grind⟩
      exact hk v4 p2
    · refine ok_gd ?_ (fun g3 => ?_)
      · have c4 : (0 : Int32) ≤ (M.1 26 0 5) ∧ (M.1 26 0 5) ≤ (40 : Int32) := hM.at1 26 0 5
        exact vp_of (by decide) (by grind) (show v3 < (40 : Int32) by grind)
      have g3 := vp_to (by decide) g3
      have g3 : (0 : Int32) ≤ v3 ∧ v3 < (40 : Int32) := g3
      refine ok_ite (fun q5 => ?_) (fun q5 => ?_)
      · refine ok_gd ?_ (fun g6 => ?_)
        · have c7 : (0 : Int32) ≤ (M.1 26 0 5) ∧ (M.1 26 0 5) ≤ (40 : Int32) := hM.at1 26 0 5
          have c8 : (0 : Int32) ≤ (M.1 39 0 (v3).toNatClampNeg) ∧ (M.1 39 0 (v3).toNatClampNeg) ≤ (9 : Int32) := hM.at1 39 0 ((v3).toNatClampNeg)
          exact vp_of (by decide) (by grind) (show v3 < (40 : Int32) by grind)
        have g6 := vp_to (by decide) g6
        have g6 : (0 : Int32) ≤ v3 ∧ v3 < (40 : Int32) := g6
        refine ok_ite (fun q9 => ?_) (fun q9 => ?_)
        · have p10 : (0 : Int32) ≤ v3 ∧ v3 ≤ (39 : Int32) := by
            have c11 : (0 : Int32) ≤ (M.1 26 0 5) ∧ (M.1 26 0 5) ≤ (40 : Int32) := hM.at1 26 0 5
            have c12 : (0 : Int32) ≤ (M.1 39 0 (v3).toNatClampNeg) ∧ (M.1 39 0 (v3).toNatClampNeg) ≤ (9 : Int32) := hM.at1 39 0 ((v3).toNatClampNeg)
            have c13 : (0 : Int32) ≤ (M.1 40 0 (v3).toNatClampNeg) ∧ (M.1 40 0 (v3).toNatClampNeg) ≤ (7 : Int32) := hM.at1 40 0 ((v3).toNatClampNeg)
            exact ⟨by grind, by grind⟩
          refine ok_b0 (s_X7_counts M hM v3 p10) (fun v18 w14 => ?_)
          have w15 : (0 : Int32) ≤ v18 ∧ v18 ≤ (1 : Int32) := w14
          refine ok_ite (fun q16 => ?_) (fun q16 => ?_)
          · have p17 : (0 : Int32) ≤ v3 ∧ v3 ≤ (39 : Int32) := by
              have c18 : (0 : Int32) ≤ (M.1 26 0 5) ∧ (M.1 26 0 5) ≤ (40 : Int32) := hM.at1 26 0 5
              have c19 : (0 : Int32) ≤ (M.1 39 0 (v3).toNatClampNeg) ∧ (M.1 39 0 (v3).toNatClampNeg) ≤ (9 : Int32) := hM.at1 39 0 ((v3).toNatClampNeg)
              have c20 : (0 : Int32) ≤ (M.1 40 0 (v3).toNatClampNeg) ∧ (M.1 40 0 (v3).toNatClampNeg) ≤ (7 : Int32) := hM.at1 40 0 ((v3).toNatClampNeg)
              exact ⟨by grind, by grind⟩
            have p21 : ((-1) : Int32) ≤ v4 ∧ v4 ≤ (39 : Int32) := by
              exact ⟨by grind, by grind⟩
            exact s_X7_bestOf_J49 (n := _) (f_X7_bestOf_L5 M p0 p1 n) ih k1 hk v3 p17 v4 p21 M hM hF
          · have p22 : (0 : Int32) ≤ v3 ∧ v3 ≤ (39 : Int32) := by
              have c23 : (0 : Int32) ≤ (M.1 26 0 5) ∧ (M.1 26 0 5) ≤ (40 : Int32) := hM.at1 26 0 5
              have c24 : (0 : Int32) ≤ (M.1 39 0 (v3).toNatClampNeg) ∧ (M.1 39 0 (v3).toNatClampNeg) ≤ (9 : Int32) := hM.at1 39 0 ((v3).toNatClampNeg)
              have c25 : (0 : Int32) ≤ (M.1 40 0 (v3).toNatClampNeg) ∧ (M.1 40 0 (v3).toNatClampNeg) ≤ (7 : Int32) := hM.at1 40 0 ((v3).toNatClampNeg)
              exact ⟨by grind, by grind⟩
            have p26 : ((-1) : Int32) ≤ v4 ∧ v4 ≤ (39 : Int32) := by
              exact ⟨by grind, by grind⟩
            exact s_X7_bestOf_J50 (n := _) (f_X7_bestOf_L5 M p0 p1 n) ih k1 hk v3 p22 v4 p26 M hM (1 : Int32) ⟨by decide, by decide⟩ hF
        · have p27 : (0 : Int32) ≤ v3 ∧ v3 ≤ (39 : Int32) := by
            have c28 : (0 : Int32) ≤ (M.1 26 0 5) ∧ (M.1 26 0 5) ≤ (40 : Int32) := hM.at1 26 0 5
            have c29 : (0 : Int32) ≤ (M.1 39 0 (v3).toNatClampNeg) ∧ (M.1 39 0 (v3).toNatClampNeg) ≤ (9 : Int32) := hM.at1 39 0 ((v3).toNatClampNeg)
            have c30 : (0 : Int32) ≤ (M.1 40 0 (v3).toNatClampNeg) ∧ (M.1 40 0 (v3).toNatClampNeg) ≤ (7 : Int32) := hM.at1 40 0 ((v3).toNatClampNeg)
            exact ⟨by grind, by grind⟩
          have p31 : ((-1) : Int32) ≤ v4 ∧ v4 ≤ (39 : Int32) := by
            exact ⟨by grind, by grind⟩
          exact s_X7_bestOf_J49 (n := _) (f_X7_bestOf_L5 M p0 p1 n) ih k1 hk v3 p27 v4 p31 M hM hF
      · have p32 : (0 : Int32) ≤ v3 ∧ v3 ≤ (39 : Int32) := by
          have c33 : (0 : Int32) ≤ (M.1 26 0 5) ∧ (M.1 26 0 5) ≤ (40 : Int32) := hM.at1 26 0 5
          have c34 : (0 : Int32) ≤ (M.1 39 0 (v3).toNatClampNeg) ∧ (M.1 39 0 (v3).toNatClampNeg) ≤ (9 : Int32) := hM.at1 39 0 ((v3).toNatClampNeg)
          exact ⟨by grind, by grind⟩
        have p35 : ((-1) : Int32) ≤ v4 ∧ v4 ≤ (39 : Int32) := by
          exact ⟨by grind, by grind⟩
        exact s_X7_bestOf_J49 (n := _) (f_X7_bestOf_L5 M p0 p1 n) ih k1 hk v3 p32 v4 p35 M hM hF