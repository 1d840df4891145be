theorem j71_eq {rc : Int32 → Int32 → SS → (SS → Option (SS × Int32)) → Option (SS × Int32)} {k4 : SS → Option (SS × Int32)} {M : SS} (hM : OKS M) {c : Int32} (hc : isL c) {q : Nat} (hq : q ≤ 39) {ic d : Int32} {s : Nat → Int32} {oc : Int32} {o : Nat → Int32} {dn rd at_ : Int32} (hr : rM M (d, s, oc, o, dn, rd, at_)) (hic : M.1 34 0 q = ic) (hrd : rd ≤ ic) {v27 : Int32} (hv : (v27 = 0 ∧ ¬ c = 110 ∧ ¬ c = 105 ∧ ¬ c = 100) ∨ (v27 = 1 ∧ (c = 110 ∨ c = 105 ∨ c = 100))) (p0 ax : Int32) :
    f_X7_runs_J71 rc k4 M c (nI q) rd p0 ax v27 = if erA c ic d oc dn rd (tpA s d) = 32 then f_X7_runs_J181 rc k4 M v27 c p0 ax rd (nI q) else some (M, erA c ic d oc dn rd (tpA s d)) := by
  obtain ⟨a1, a2, a3, a4, a5⟩ := hr
  simp only at a1 a2 a3 a4 a5
  have r38 : (0 : Int32) ≤ M.1 26 0 38 ∧ M.1 26 0 38 ≤ (12 : Int32) := hM.at1 26 0 38
  have r39 : (0 : Int32) ≤ M.1 26 0 39 ∧ M.1 26 0 39 ≤ (6 : Int32) := hM.at1 26 0 39
  have r40 : (0 : Int32) ≤ M.1 26 0 40 ∧ M.1 26 0 40 ≤ (300 : Int32) := hM.at1 26 0 40
  have hvq : vp_in (nI q) 40 := nI_in (by omega) (by decide)
  unfold f_X7_runs_J71
  rw [a3]
  by_cases t : dn = 300
  · have e : erA c ic d oc dn rd (tpA s d) = 116 := by unfold erA; rw [if_neg (by grind)]
    rw [if_pos t, e, if_neg (by decide)]
  rw [if_neg t, needs_eq hc, b0_some, a1]
  have t2 : dn < 300 := by grind
  by_cases u : ndA c ≤ d
  case neg =>
    have e : erA c ic d oc dn rd (tpA s d) = 117 := by unfold erA; rw [if_pos t2, if_neg u]
    rw [if_neg u, e, if_neg (by decide)]
  rw [if_pos u, nI_clamp (show q < 2 ^ 31 by omega), hic]
  by_cases ee : c = 105 ∧ ¬ rd < ic
  · have e : erA c ic d oc dn rd (tpA s d) = 101 := by unfold erA; rw [if_pos t2, if_pos u, if_pos ee]
    rw [if_pos ee.1, gd_t hvq, if_pos (by grind), e, if_neg (by decide)]
  have h1 : (if c = 105 then gd (vp_in (nI q) 40) (if rd = ic then some (M, 101) else f_X7_runs_J121 rc k4 c M v27 p0 ax rd (nI q)) else f_X7_runs_J121 rc k4 c M v27 p0 ax rd (nI q)) = f_X7_runs_J121 rc k4 c M v27 p0 ax rd (nI q) := by
    by_cases z : c = 105
    · rw [if_pos z, gd_t hvq, if_neg (by grind)]
    · rw [if_neg z]
  rw [h1]
  have htp : 1 ≤ d → tpA s d = M.1 53 0 (d - 1).toNatClampNeg := fun z => by
    unfold tpA
    rw [if_pos z, a4 _ (cl_mono (by grind) (by grind))]
  unfold f_X7_runs_J121
  rw [a1]
  by_cases z : c = 37 ∧ tpA s d = 0
  · have e : erA c ic d oc dn rd (tpA s d) = 122 := by unfold erA; rw [if_pos t2, if_pos u, if_neg ee, if_pos z]
    have hd : 2 ≤ d := by have u2 := u; rw [z.1] at u2; exact u2
    rw [if_pos z.1, gd_t (vp_of (by decide) (by grind) (show d - 1 < (12 : Int32) by grind)), ← htp (by grind), if_pos z.2, e, if_neg (by decide)]
  have h2 : (if c = 37 then gd (vp_in (d - 1) 12) (if M.1 53 0 (d - 1).toNatClampNeg = 0 then some (M, 122) else f_X7_runs_J145 rc k4 v27 c M p0 ax rd (nI q)) else f_X7_runs_J145 rc k4 v27 c M p0 ax rd (nI q)) = f_X7_runs_J145 rc k4 v27 c M p0 ax rd (nI q) := by
    by_cases y : c = 37
    · have hd : 2 ≤ d := by have u2 := u; rw [y] at u2; exact u2
      rw [if_pos y, gd_t (vp_of (by decide) (by grind) (show d - 1 < (12 : Int32) by grind)), ← htp (by grind), if_neg (fun x => z ⟨y, x⟩)]
    · rw [if_neg y]
  rw [h2]
  unfold f_X7_runs_J145
  rw [a1]
  by_cases v : (c = 110 ∨ c = 105 ∨ c = 100) ∧ ¬ d < 12
  · have e : erA c ic d oc dn rd (tpA s d) = 118 := by unfold erA; rw [if_pos t2, if_pos u, if_neg ee, if_neg z, if_pos v]
    have hv1 : v27 = 1 := hv.elim (fun x => absurd v.1 (by grind)) (fun x => x.1)
    rw [if_neg (by rw [hv1]; decide), if_pos (by grind), e, if_neg (by decide)]
  have h3 : (if v27 = 0 then f_X7_runs_J162 rc k4 c M v27 p0 ax rd (nI q) else if d = 12 then some (M, 118) else f_X7_runs_J162 rc k4 c M v27 p0 ax rd (nI q)) = f_X7_runs_J162 rc k4 c M v27 p0 ax rd (nI q) := by
    rcases hv with x | x
    · rw [if_pos x.1]
    · rw [if_neg (by rw [x.1]; decide), if_neg (fun y => v ⟨x.2, by grind⟩)]
  rw [h3]
  unfold f_X7_runs_J162
  rw [a2]
  by_cases l : c = 111 ∧ ¬ oc < 6
  · have e : erA c ic d oc dn rd (tpA s d) = 108 := by unfold erA; rw [if_pos t2, if_pos u, if_neg ee, if_neg z, if_neg v, if_pos l]
    rw [if_pos l.1, if_pos (by grind), e, if_neg (by decide)]
  have e : erA c ic d oc dn rd (tpA s d) = 32 := by unfold erA; rw [if_pos t2, if_pos u, if_neg ee, if_neg z, if_neg v, if_neg l]
  rw [if_pos e]
  by_cases y : c = 111
  · rw [if_pos y, if_neg (fun x => l ⟨y, by grind⟩)]
  · rw [if_neg y]
/-- the changes of a letter that is no push and no bracket -/
theorem ch_eq {M : SS} (hM : OKS M) {d : Int32} {s : Nat → Int32} {oc : Int32} {o : Nat → Int32} {dn rd at_ : Int32} (hr : rM M (d, s, oc, o, dn, rd, at_)) {pa inp : Nat → Int32} {c m ic : Int32} (hc : c = 37 ∨ c = 42 ∨ c = 43 ∨ c = 45 ∨ c = 111 ∨ c = 112 ∨ c = 115)
    (h2 : ndA c ≤ d) (h37 : c = 37 → ¬ tpA s d = 0) (h111 : c = 111 → oc < 6) :
    ok (f_X7_changes M c) (fun r => rM r.1 (stA pa inp c m (d, s, oc, o, dn, rd, at_)) ∧ IV AR M r.1 ∧ (stA pa inp c m (d, s, oc, o, dn, rd, at_)).2.2.2.2 = (dn, rd, at_ + 1)) := by
  obtain ⟨a1, a2, a3, a4, a5⟩ := hr
  simp only at a1 a2 a3 a4 a5
  have r38 : (0 : Int32) ≤ M.1 26 0 38 ∧ M.1 26 0 38 ≤ (12 : Int32) := hM.at1 26 0 38
  have r39 : (0 : Int32) ≤ M.1 26 0 39 ∧ M.1 26 0 39 ≤ (6 : Int32) := hM.at1 26 0 39
  have hd1 : 1 ≤ d := by
    rcases hc with h | h | h | h | h | h | h <;> (rw [h] at h2; have h9 := h2; simp [ndA] at h9; grind)
  have hv1 : vp_in (d - 1) 12 := vp_of (by decide) (by grind) (show d - 1 < (12 : Int32) by grind)
  have htp : M.1 53 0 (d - 1).toNatClampNeg = tpA s d := by
    unfold tpA
    rw [if_pos hd1, a4 _ (cl_mono (by grind) (by grind))]
  have hbl : 2 ≤ d → vp_in (d - 2) 12 ∧ M.1 53 0 (d - 2).toNatClampNeg = blA s d := fun z => by
    unfold blA
    rw [if_pos z, a4 _ (cl_mono (by grind) (by grind))]
    exact ⟨vp_of (by decide) (by grind) (show d - 2 < (12 : Int32) by grind), rfl⟩
  have i0 : IV AR M M := hM.self
  have k38 : AR 26 0 38 := Or.inr (Or.inr ⟨rfl, Or.inl rfl⟩)
  have k39 : AR 26 0 39 := Or.inr (Or.inr ⟨rfl, Or.inr (Or.inl rfl)⟩)
  have k53 : ∀ p, AR 53 0 p := fun _ => Or.inl rfl
  have k54 : ∀ p, AR 54 0 p := fun _ => Or.inr (Or.inl rfl)
  have i1 : IV AR M (u1 M 26 0 38 (d - 1)) := i0.w1 rfl k38 (show (0 : Int32) ≤ d - 1 ∧ d - 1 ≤ (12 : Int32) from ⟨by grind, by grind⟩)
  -- what two give
  have two : ∀ x : Int32, 2 ≤ d → rM (u1 (u1 M 26 0 38 (d - 1)) 53 0 (d - 2).toNatClampNeg x) (d - 1, ups s (d - 2).toNatClampNeg x, oc, o, dn, rd, at_ + 1) ∧ IV AR M (u1 (u1 M 26 0 38 (d - 1)) 53 0 (d - 2).toNatClampNeg x) := by
    intro x hd
    refine ⟨⟨?_, ?_, ?_, fun j hj => ?_, fun j hj => ?_⟩, i1.w1f rfl (k53 _) rfl⟩
    · simp [up_e]
    · simp [up_e, a2]
    · simp [up_e, a3]
    · simp only at hj
      simp [up_e, ups]
      have := cl_mono (x := d - 1) (y := d) (by grind) (by grind)
      rw [a4 j (by omega)]
    · simp only at hj
      simp [up_e]
      exact a5 j hj
  unfold f_X7_changes
  rw [a1]
  refine ok_gd hv1 (fun _ => ok_lq (fun v2 ev2 => ?_))
  rw [htp] at ev2
  subst ev2
  by_cases c112 : c = 112
  · rw [if_pos c112]
    unfold f_X7_changes_J24
    rw [a1]
    have e : stA pa inp c m (d, s, oc, o, dn, rd, at_) = (d - 1, s, oc, o, dn, rd, at_ + 1) := by simp [stA, c112]
    rw [e]
    refine ok_lq (fun M4 e4 => ?_)
    rw [if_neg (show ¬ c = 111 by rw [c112]; decide)]
    refine ok_some ⟨⟨?_, ?_, ?_, fun j hj => ?_, fun j hj => ?_⟩, by rw [e4]; exact i1, rfl⟩
    · rw [e4]; simp [up_e]
    · rw [e4]; simp [up_e, a2]
    · rw [e4]; simp [up_e, a3]
    · rw [e4]
      simp only at hj
      simp [up_e]
      have := cl_mono (x := d - 1) (y := d) (by grind) (by grind)
      exact a4 j (by omega)
    · rw [e4]
      simp only at hj
      simp [up_e]
      exact a5 j hj
  rw [if_neg c112]
  by_cases c111 : c = 111
  · rw [if_pos c111]
    have hoc := h111 c111
    unfold f_X7_changes_J24
    rw [a1]
    have e : stA pa inp c m (d, s, oc, o, dn, rd, at_) = (d - 1, s, oc + 1, ups o oc.toNatClampNeg (tpA s d), dn, rd, at_ + 1) := by simp [stA, c111]
    rw [e, lq_e, if_pos c111, up_p (by decide), a2]
    have hv6 : vp_in oc 6 := vp_of (by decide) (by grind) (show oc < (6 : Int32) by grind)
    refine ok_gd hv6 (fun _ => ?_)
    rw [lq_e, lq_e, up_k (by decide), up_p (by decide), a2]
    have ec1 := cl_succ (v := oc) (by grind) (by grind)
    have i2 : IV AR M (u1 (u1 M 26 0 38 (d - 1)) 54 0 oc.toNatClampNeg (tpA s d)) := i1.w1f rfl (k54 _) rfl
    refine ok_some ⟨⟨?_, ?_, ?_, fun j hj => ?_, fun j hj => ?_⟩, i2.w1 rfl k39 (show (0 : Int32) ≤ oc + 1 ∧ oc + 1 ≤ (6 : Int32) from ⟨by grind, by grind⟩), rfl⟩
    · simp [up_e]
    · simp [up_e]
    · simp [up_e, a3]
    · simp only at hj
      simp [up_e]
      have := cl_mono (x := d - 1) (y := d) (by grind) (by grind)
      exact a4 j (by omega)
    · simp only [ec1] at hj
      simp [up_e, ups]
      by_cases y : j = oc.toNatClampNeg
      · rw [if_pos y, if_pos y]
      · rw [if_neg y, if_neg y, a5 j (by omega)]
  rw [if_neg c111]
  have hd : 2 ≤ d := by
    rcases hc with h | h | h | h | h | h | h <;> first | exact absurd h c111 | exact absurd h c112 | (rw [h] at h2; exact h2)
  obtain ⟨hv2, eb⟩ := hbl hd
  refine ok_gd hv2 (fun _ => ok_lq (fun v12 e12 => ?_))
  rw [eb] at e12
  subst e12
  by_cases c115 : c = 115
  · rw [if_pos c115]
    have e : stA pa inp c m (d, s, oc, o, dn, rd, at_) = (d, ups (ups s (d - 2).toNatClampNeg (tpA s d)) (d - 1).toNatClampNeg (blA s d), oc, o, dn, rd, at_ + 1) := by simp [stA, c115]
    rw [e]
    refine ok_gd hv1 (fun _ => ?_)
    rw [lq_e, up_k (by decide), a1]
    refine ok_gd hv2 (fun _ => ?_)
    rw [lq_e]
    have i2 : IV AR M (u1 M 53 0 (d - 1).toNatClampNeg (blA s d)) := i0.w1f rfl (k53 _) rfl
    have l1 := cl_mono (x := d - 2) (y := d - 1) (by grind) (by grind)
    refine ok_some ⟨⟨?_, ?_, ?_, fun j hj => ?_, fun j hj => ?_⟩, i2.w1f rfl (k53 _) rfl, rfl⟩
    · simp [up_e, a1]
    · simp [up_e, a2]
    · simp [up_e, a3]
    · simp only at hj
      simp [up_e, ups]
      by_cases y : j = (d - 1).toNatClampNeg
      · rw [if_neg (by omega), if_pos y, if_pos y]
      · rw [if_neg y, if_neg y, a4 j hj]
    · simp only at hj
      simp [up_e]
      exact a5 j hj
  rw [if_neg c115]
  refine ok_lq (fun M14 e14 => ?_)
  have ez : M14.1 26 0 38 - 1 = d - 2 := by rw [e14, up_s]; grind
  rw [ez]
  have fin : ∀ x : Int32, stA pa inp c m (d, s, oc, o, dn, rd, at_) = (d - 1, ups s (d - 2).toNatClampNeg x, oc, o, dn, rd, at_ + 1) → ok (gd (vp_in (d - 2) 12) (lq (u1 M14 53 0 (d - 2).toNatClampNeg x) (fun M26 => some (M26, ())))) (fun r => rM r.1 (stA pa inp c m (d, s, oc, o, dn, rd, at_)) ∧ IV AR M r.1 ∧ (stA pa inp c m (d, s, oc, o, dn, rd, at_)).2.2.2.2 = (dn, rd, at_ + 1)) := by
    intro x e
    rw [e]
    refine ok_gd hv2 (fun _ => ?_)
    rw [lq_e, e14]
    exact ok_some ⟨(two x hd).1, (two x hd).2, rfl⟩
  by_cases c43 : c = 43
  · rw [if_pos c43]
    exact fin _ (by simp [stA, opA, c43])
  rw [if_neg c43]
  by_cases c45 : c = 45
  · rw [if_pos c45]
    exact fin _ (by simp [stA, opA, c45])
  rw [if_neg c45]
  by_cases c42 : c = 42
  · rw [if_pos c42]
    exact fin _ (by simp [stA, opA, c42])
  rw [if_neg c42]
  have c37 : c = 37 := by
    rcases hc with h | h | h | h | h | h | h <;> first | exact h | exact absurd h c111 | exact absurd h c112 | exact absurd h c115 | exact absurd h c43 | exact absurd h c45 | exact absurd h c42
  refine ok_gd (h37 c37) (fun _ => ?_)
  exact fin _ (by simp [stA, opA, c37, h37 c37])
