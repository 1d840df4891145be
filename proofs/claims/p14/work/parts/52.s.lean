/-! the run that is asked for -/
theorem rl_84 {M1 : SS} (hc : (0 : Int32) ≤ M1.1 26 0 39 ∧ M1.1 26 0 39 ≤ (6 : Int32)) {P : SS × Int32 → Prop} : ∀ (n a : Nat) (M9 : SS) (k6 : SS → Option (SS × Int32)), 7 ≤ a + n → nI a ≤ M1.1 26 0 39 → a ≤ 6 → (∀ k i p : Nat, k ≠ 55 → M9.1 k i p = M1.1 k i p) → M9.2 = M1.2 → (∀ j : Nat, j < a → M9.1 55 0 j = M1.1 54 0 j) → OKS M9 →
    (∀ M8 : SS, (∀ k i p : Nat, k ≠ 55 → M8.1 k i p = M1.1 k i p) → M8.2 = M1.2 → (∀ j : Nat, j < (M1.1 26 0 39).toNatClampNeg → M8.1 55 0 j = M1.1 54 0 j) → OKS M8 → ok (k6 M8) P) → ok (f_X7_run_L84 n (nI a) M9 k6) P := by
  intro n
  induction n with
  | zero => intro a M9 k6 h1 h2 h3; omega
  | succ n ih =>
    intro a M9 k6 h1 h2 h3 hf hg hj hO hk
    rw [f_X7_run_L84]
    show ok (if M9.1 26 0 39 ≤ nI a then k6 M9 else _) P
    rw [hf 26 0 39 (by decide)]
    refine ok_ite (fun c => ?_) (fun c => ?_)
    · refine hk M9 hf hg (fun j hj2 => hj j ?_) hO
      have e : M1.1 26 0 39 = nI a := by grind
      rw [e, nI_clamp (by omega)] at hj2
      exact hj2
    · have hlt : nI a < M1.1 26 0 39 := by grind
      have ha : a < 6 := (nI_ltI (by omega) (by decide)).mp (show nI a < nI 6 by show nI a < (6 : Int32); grind)
      refine ok_gd (nI_in ha (by decide)) (fun _ => ok_gd (nI_in ha (by decide)) (fun _ => ?_))
      rw [lq_e, nI_clamp (by omega), nI_1, hf 54 0 a (by decide)]
      have hO2 : IV TT M9 (u1 M9 55 0 a (M1.1 54 0 a)) := IV.w1f hO rfl trivial rfl
      refine ih (a + 1) _ k6 (by omega) (by rw [← nI_1]; grind) (by omega) (fun k i p z => ?_) hg (fun j hj2 => ?_) hO2.oks hk
      · rw [up_k z]
        exact hf k i p z
      · rw [up_e]
        by_cases y : j = a
        · rw [if_pos ⟨rfl, rfl, y⟩, y]
        · rw [if_neg (fun z => y z.2.2)]
          exact hj j (by omega)
theorem J28_f {M : SS} (p q k : Int32) (hk : ¬ k ≤ 0) : f_X7_run_J28 M p q k = some (u1 M 26 0 9 k, 0) := by
  unfold f_X7_run_J28
  rw [lq_e, up_s, if_neg hk]
/-- what is typed, in both -/
theorem typed_eq {X M : SS} (hR : REL X M) : M.1 29 0 40 = X.1 1 0 2 ∧ ∀ a : Nat, a < (M.1 29 0 40).toNatClampNeg → M.1 27 0 (24 * 40 + a) = X.1 2 0 a ∧ M.1 28 0 (24 * 40 + a) = X.1 3 0 a := by
  have e : M.1 29 0 40 = X.1 1 0 2 := by rw [hR.2.1.2.1, hR.2.2.1.1]
  refine ⟨e, fun a ha => ?_⟩
  rw [e] at ha
  have := hR.2.2.2.1 a ha
  exact ⟨this.1.symm, this.2.symm⟩
theorem typed_let {X M : SS} (hR : REL X M) : ∀ a : Nat, a < (M.1 29 0 40).toNatClampNeg → isL (X.1 2 0 a) := by
  intro a ha
  obtain ⟨e, h⟩ := typed_eq hR
  have r : (0 : Int32) ≤ M.1 29 0 40 ∧ M.1 29 0 40 ≤ (24 : Int32) := hR.2.1.at1 29 0 40
  have l := cl_le (n := 24) r.2 (by decide)
  rw [← (h a ha).1]
  refine hR.2.1.2.2 40 a (Nat.le_refl _) (by omega) ?_
  rw [← cl_nI r.1, nI_ltI (by omega) (by omega)]
  exact ha
theorem whole_eq {X M : SS} (hR : REL X M) : ∃ b, f_X3_isWhole X 0 = some b ∧ f_X7_isWhole M 40 = some b ∧ (b = 0 ∨ b = 1) ∧ (b = 1 ↔ WH (X.1 2 0) (X.1 1 0 2).toNatClampNeg) := by
  obtain ⟨e, h⟩ := typed_eq hR
  obtain ⟨b, e1, b1, b2⟩ := wX_eq hR.1 0
  obtain ⟨b', e2, b3, b4⟩ := wM_eq hR.2.1 (p := 40) (Nat.le_refl _) (pl := X.1 2 0) (fun a ha => (h a ha).1)
  rw [e] at b4
  refine ⟨b, e1, ?_, b1, b2⟩
  have : b = b' := by
    rcases b1 with x | x <;> rcases b3 with y | y
    · rw [x, y]
    · rw [y] at b4
      have := b2.mpr (b4.mp rfl)
      rw [x] at this
      exact absurd this (by decide)
    · rw [x] at b2
      have := b4.mpr (b2.mp rfl)
      rw [y] at this
      exact absurd this (by decide)
    · rw [x, y]
  rw [this]
  exact e2
/-- a run of what is typed by a test: how it ends, by itself -/
noncomputable def RUN (X : SS) (t : Nat) : Int32 × MS := rnA (X.1 1 0 2) (X.1 4 t 2) (X.1 2 0) (X.1 3 0) (paC (X.1 2 0)) (X.1 5 t) 1000 ms0
noncomputable def CODE (X : SS) (t : Nat) : Int32 := cdA (X.1 4 t 3) (X.1 6 t) (RUN X t)
theorem xr_eq {X Y : SS} (hY : OKS Y) (i0 : Nat) {t : Nat} (hw : WH (X.1 2 0) (X.1 1 0 2).toNatClampNeg) (k : ∀ k i p : Nat, k = 1 ∨ k = 2 ∨ k = 3 ∨ k = 4 ∨ k = 5 ∨ k = 6 → Y.1 k i p = X.1 k i p) : ok (f_X1_execute Y i0 0 t) (fun r => r.2 = CODE X t ∧ rX r.1 i0 (RUN X t).2) := by
  have h := ex_eq hY i0 0 t (by rw [k 1 0 2 (by omega), show Y.1 2 0 = X.1 2 0 from funext fun a => k 2 0 a (by omega)]; exact hw) (pl := X.1 2 0) (pn := X.1 3 0) (inp := X.1 5 t) (exq := X.1 6 t) (fun a _ => ⟨k 2 0 a (by omega), k 3 0 a (by omega)⟩) (fun j _ => k 5 t j (by omega)) (fun j _ => k 6 t j (by omega))
  rw [k 1 0 2 (by omega), k 4 t 2 (by omega), k 4 t 3 (by omega)] at h
  exact h
theorem mr_eq {X M N : SS} (hR : REL X M) (hN : OKS N) {t : Nat} (ht_ : t < 40) (hw : WH (X.1 2 0) (X.1 1 0 2).toNatClampNeg) (k : ∀ k p : Nat, k = 27 ∨ k = 28 ∨ k = 29 ∨ k = 34 ∨ k = 35 ∨ k = 36 ∨ k = 37 → N.1 k 0 p = M.1 k 0 p) : ok (f_X7_runs N 40 (nI t)) (fun r => IV AR N r.1 ∧ r.2 = CODE X t ∧ rM r.1 (RUN X t).2) := by
  obtain ⟨e, h⟩ := typed_eq hR
  obtain ⟨a1, a2, a3, a4⟩ := hR.2.2.2.2.2.1 t ht_
  have h9 := rn_eq hN (p := 40) (q := t) (Nat.le_refl _) (by omega) (pl := X.1 2 0) (pn := X.1 3 0) (inp := X.1 5 t) (exq := X.1 6 t)
    (by rw [k 29 40 (by omega), e]; exact hw) (fun a ha => typed_let hR a (by rw [k 29 40 (by omega)] at ha; exact ha)) (fun a ha => by rw [k 29 40 (by omega)] at ha; rw [k 27 _ (by omega), k 28 _ (by omega)]; exact h a ha)
    (fun j hj => by rw [k 34 t (by omega), ← a1] at hj; rw [k 36 _ (by omega)]; exact (a3 j hj).symm) (fun j hj => by rw [k 35 t (by omega), ← a2] at hj; rw [k 37 _ (by omega)]; exact (a4 j hj).symm)
  rw [k 29 40 (by omega), k 34 t (by omega), k 35 t (by omega), e, ← a1, ← a2] at h9
  exact h9
theorem t_run {X M O : SS} (hR : REL X M) (p q : Int32) : ∃ X2 O2 k M2 b, f_L_run X O p q = some (X2, O2, k) ∧ f_X7_run M p q = some (M2, b) ∧ REL X2 M2 ∧ AG O2 M2 k b := by
  have hX := hR.1
  have hM := hR.2.1
  obtain ⟨c1, c2, c3, c4, c5, c6⟩ := hR.2.2.1
  have hC := hR.2.2.2
  have r1 : (0 : Int32) ≤ M.1 26 0 3 ∧ M.1 26 0 3 ≤ (8 : Int32) := hM.at1 26 0 3
  by_cases a : p < 0 ∨ X.1 0 0 9 ≤ p
  · have e1 : f_L_run X O p q = some (X, O, 1) := by
      unfold f_L_run f_X6_run
      rw [kataAt_no a]
      rfl
    have e2 : f_X7_run M p q = some (u1 M 26 0 9 1, 0) := by
      unfold f_X7_run
      rw [isTest_no hM (Or.inl (by rw [← c4]; exact a)), b0_some, if_pos rfl, J28_f _ _ _ (by decide)]
    exact ⟨_, _, _, _, _, e1, e2, rel_fail hR 1 (by decide), up_s, fun z => absurd z (by decide)⟩
  have c6p := c6 p.toNatClampNeg
  have r7 : (0 : Int32) ≤ X.1 7 p.toNatClampNeg 1 ∧ X.1 7 p.toNatClampNeg 1 ≤ (5 : Int32) := hX.at1 7 p.toNatClampNeg 1
  by_cases c : q < 0 ∨ X.1 7 p.toNatClampNeg 1 ≤ q
  · have e1 : f_L_run X O p q = some (X, O, 1) := by
      unfold f_L_run f_X6_run
      rw [kataAt_in hX a, e0_inl, testAt_no c]
      rfl
    have e2 : f_X7_run M p q = some (u1 M 26 0 9 1, 0) := by
      unfold f_X7_run
      rw [isTest_no hM (Or.inr (by rw [← c6p]; exact c)), b0_some, if_pos rfl, J28_f _ _ _ (by decide)]
    exact ⟨_, _, _, _, _, e1, e2, rel_fail hR 1 (by decide), up_s, fun z => absurd z (by decide)⟩
  obtain ⟨b, w1, w2, w3, w4⟩ := whole_eq hR
  rcases w3 with b0e | b1e
  · have e1 : f_L_run X O p q = some (X, O, 2) := by
      unfold f_L_run f_X6_run
      rw [kataAt_in hX a, e0_inl, testAt_in hX c, e0_inl, w1, b0_some, if_pos b0e]
      rfl
    have e2 : f_X7_run M p q = some (u1 M 26 0 9 2, 0) := by
      unfold f_X7_run
      rw [isTest_in hM (by rw [← c4]; exact a) (by rw [← c6p]; exact c), b0_some, if_neg (by decide), w2, b0_some, if_pos b0e, J28_f _ _ _ (by decide)]
    exact ⟨_, _, _, _, _, e1, e2, rel_fail hR 2 (by decide), up_s, fun z => absurd z (by decide)⟩
  · have hw := w4.mp b1e
    have hk7 : p.toNatClampNeg < 8 := cl_lt (vp_of (by decide) (by grind) (show p < (8 : Int32) by grind))
    have hq4 : q.toNatClampNeg < 5 := cl_lt (vp_of (by decide) (by grind) (show q < (5 : Int32) by grind))
    have hix : ((5 : Int32) * p) + q = nI (5 * p.toNatClampNeg + q.toNatClampNeg) := by
      rw [← nI_add, ← pk_mul, cl_nI (by grind), cl_nI (show (0 : Int32) ≤ q by grind)]
      rfl
    have ht_ : 5 * p.toNatClampNeg + q.toNatClampNeg < 40 := by omega
    generalize hte : 5 * p.toNatClampNeg + q.toNatClampNeg = t at hix ht_
    -- the class
    have q16 : IV TT X (u1 X 0 0 15 1) := IV.w1 hX rfl trivial (show (0 : Int32) ≤ (1 : Int32) ∧ (1 : Int32) ≤ (1 : Int32) from ⟨by decide, by decide⟩)
    have k16 : ∀ k i p : Nat, k ≠ 0 → (u1 X 0 0 15 1).1 k i p = X.1 k i p := fun k i p h => up_k h
    have z16 : ∀ p : Nat, p ≠ 15 → (u1 X 0 0 15 1).1 0 0 p = X.1 0 0 p := fun p h => up_p h
    have y16 : (u1 X 0 0 15 1).1 0 0 15 = 1 := up_s
    have l16 : (u1 X 0 0 15 1).2.1 = X.2.1 := rfl
    generalize eX16 : u1 X 0 0 15 1 = X16 at q16 k16 z16 y16 l16
    obtain ⟨⟨X18, v17⟩, es, hs, hv, hrx⟩ := ok_and (w_X1_execute X16 q16.oks 0 0 t) (xr_eq (X := X) q16.oks 0 (t := t) hw (fun k i p h => k16 k i p (by omega)))
    simp only at hs hv hrx
    -- the reference
    have q5 : IV TT M (u1 M 26 0 9 0) := IV.w1 hM rfl trivial (show (0 : Int32) ≤ (0 : Int32) ∧ (0 : Int32) ≤ (3 : Int32) from ⟨by decide, by decide⟩)
    have k5 : ∀ k i p : Nat, k ≠ 26 → (u1 M 26 0 9 0).1 k i p = M.1 k i p := fun k i p h => up_k h
    have z5 : ∀ p : Nat, p ≠ 9 → (u1 M 26 0 9 0).1 26 0 p = M.1 26 0 p := fun p h => up_p h
    have y5 : (u1 M 26 0 9 0).1 26 0 9 = 0 := up_s
    have l5 : (u1 M 26 0 9 0).2.1 = M.2.1 := rfl
    generalize eM5 : u1 M 26 0 9 0 = M5 at q5 k5 z5 y5 l5
    obtain ⟨⟨M8, v7⟩, em, hI, hv7, hrm⟩ := mr_eq (N := M5) hR q5.oks ht_ hw (fun k p h => k5 k 0 p (by omega))
    simp only at hI hv7 hrm
    obtain ⟨n1, n2, n3, n4, n5⟩ := hrm
    obtain ⟨x1, x2, x3, x4, x5, x6, x7⟩ := hrx
    have r38 : (0 : Int32) ≤ M8.1 26 0 38 ∧ M8.1 26 0 38 ≤ (12 : Int32) := hI.at1 26 0 38
    have r39 : (0 : Int32) ≤ M8.1 26 0 39 ∧ M8.1 26 0 39 ≤ (6 : Int32) := hI.at1 26 0 39
    have f8 : ∀ k p : Nat, k ≠ 53 → k ≠ 54 → k ≠ 26 → M8.1 k 0 p = M5.1 k 0 p := fun k p h1 h2 h3 => hI.same (fun z => by rcases z with z | z | z <;> omega)
    have g8 : ∀ p : Nat, p ≠ 38 → p ≠ 39 → p ≠ 40 → M8.1 26 0 p = M5.1 26 0 p := fun p h1 h2 h3 => hI.same (fun z => by rcases z with z | z | z <;> omega)
    have l8 : ∀ k i p : Nat, k < 100 → M8.2.1 k i p = M5.2.1 k i p := fun k i p h => hI.same2 (fun z => by rcases z with z | z | z <;> omega)
    -- the last run is kept
    have s13 : OKS (u1 (u1 (u1 (u1 M8 26 0 41 1) 26 0 42 (M8.1 26 0 38)) 26 0 43 (M8.1 26 0 39)) 26 0 44 (M8.1 26 0 40)) := by
      have i1 : IV TT M8 (u1 M8 26 0 41 1) := IV.w1 hI.oks rfl trivial (show (0 : Int32) ≤ (1 : Int32) ∧ (1 : Int32) ≤ (1 : Int32) from ⟨by decide, by decide⟩)
      have i2 : IV TT M8 (u1 (u1 M8 26 0 41 1) 26 0 42 (M8.1 26 0 38)) := IV.w1f i1 rfl trivial rfl
      have i3 : IV TT M8 (u1 (u1 (u1 M8 26 0 41 1) 26 0 42 (M8.1 26 0 38)) 26 0 43 (M8.1 26 0 39)) := IV.w1 i2 rfl trivial r39
      have i4 : IV TT M8 (u1 (u1 (u1 (u1 M8 26 0 41 1) 26 0 42 (M8.1 26 0 38)) 26 0 43 (M8.1 26 0 39)) 26 0 44 (M8.1 26 0 40)) := IV.w1f i3 rfl trivial rfl
      exact i4.oks
    have t13 : ∀ k p : Nat, k ≠ 26 → (u1 (u1 (u1 (u1 M8 26 0 41 1) 26 0 42 (M8.1 26 0 38)) 26 0 43 (M8.1 26 0 39)) 26 0 44 (M8.1 26 0 40)).1 k 0 p = M8.1 k 0 p := fun k p h => by rw [up_k h, up_k h, up_k h, up_k h]
    have u13 : ∀ p : Nat, p < 41 ∨ 44 < p → (u1 (u1 (u1 (u1 M8 26 0 41 1) 26 0 42 (M8.1 26 0 38)) 26 0 43 (M8.1 26 0 39)) 26 0 44 (M8.1 26 0 40)).1 26 0 p = M8.1 26 0 p := fun p h => by rw [up_p (by omega), up_p (by omega), up_p (by omega), up_p (by omega)]
    have v13 : (u1 (u1 (u1 (u1 M8 26 0 41 1) 26 0 42 (M8.1 26 0 38)) 26 0 43 (M8.1 26 0 39)) 26 0 44 (M8.1 26 0 40)).1 26 0 41 = 1 ∧ (u1 (u1 (u1 (u1 M8 26 0 41 1) 26 0 42 (M8.1 26 0 38)) 26 0 43 (M8.1 26 0 39)) 26 0 44 (M8.1 26 0 40)).1 26 0 42 = M8.1 26 0 38 ∧ (u1 (u1 (u1 (u1 M8 26 0 41 1) 26 0 42 (M8.1 26 0 38)) 26 0 43 (M8.1 26 0 39)) 26 0 44 (M8.1 26 0 40)).1 26 0 43 = M8.1 26 0 39 ∧ (u1 (u1 (u1 (u1 M8 26 0 41 1) 26 0 42 (M8.1 26 0 38)) 26 0 43 (M8.1 26 0 39)) 26 0 44 (M8.1 26 0 40)).1 26 0 44 = M8.1 26 0 40 := by
      refine ⟨?_, ?_, ?_, ?_⟩ <;> simp [up_e]
    have l13 : (u1 (u1 (u1 (u1 M8 26 0 41 1) 26 0 42 (M8.1 26 0 38)) 26 0 43 (M8.1 26 0 39)) 26 0 44 (M8.1 26 0 40)).2 = M8.2 := rfl
    have hcodeR : (0 : Int32) ≤ v17 ∧ v17 ≤ (65535 : Int32) := by
      have := hs.2
      grind
    have hvv : v7 = v17 := by rw [hv7, hv]
    have hlast : ok (f_X7_run M p q) (fun r => r.2 = v17 ∧ OKS r.1 ∧ (∀ k p : Nat, k ≠ 26 → k ≠ 53 → k ≠ 54 → k ≠ 55 → r.1.1 k 0 p = M.1 k 0 p) ∧ (∀ p : Nat, p < 38 → p ≠ 9 → r.1.1 26 0 p = M.1 26 0 p) ∧ r.1.1 26 0 9 = 0 ∧ r.1.1 26 0 41 = 1 ∧ r.1.1 26 0 42 = M8.1 26 0 38 ∧ r.1.1 26 0 43 = M8.1 26 0 39 ∧ r.1.1 26 0 44 = M8.1 26 0 40 ∧ (∀ j : Nat, j < (M8.1 26 0 39).toNatClampNeg → r.1.1 55 0 j = M8.1 54 0 j) ∧ ∀ w : Nat, r.1.2.1 41 0 w = M.2.1 41 0 w) := by
      unfold f_X7_run
      rw [isTest_in hM (by rw [← c4]; exact a) (by rw [← c6p]; exact c), b0_some, if_neg (by decide), w2, b0_some, if_neg (by rw [b1e]; decide)]
      unfold f_X7_run_J28
      rw [lq_e, eM5, y5, if_pos (by decide), hix, em, b1_some, lq_e, lq_e, lq_e, lq_e]
      rw [show (u1 M8 26 0 41 1).1 26 0 38 = M8.1 26 0 38 from up_p (by decide), show (u1 (u1 M8 26 0 41 1) 26 0 42 (M8.1 26 0 38)).1 26 0 39 = M8.1 26 0 39 by rw [up_p (by decide), up_p (by decide)], show (u1 (u1 (u1 M8 26 0 41 1) 26 0 42 (M8.1 26 0 38)) 26 0 43 (M8.1 26 0 39)).1 26 0 40 = M8.1 26 0 40 by rw [up_p (by decide), up_p (by decide), up_p (by decide)]]
      generalize u1 (u1 (u1 (u1 M8 26 0 41 1) 26 0 42 (M8.1 26 0 38)) 26 0 43 (M8.1 26 0 39)) 26 0 44 (M8.1 26 0 40) = M13 at s13 t13 u13 v13 l13
      refine rl_84 (M1 := M13) (by rw [u13 39 (by omega)]; exact r39) 1000 0 M13 _ (by omega) (by rw [u13 39 (by omega)]; exact r39.1) (by omega) (fun _ _ _ _ => rfl) rfl (fun j hj => absurd hj (by omega)) s13 (fun M15 f15 g15 h15 o15 => ?_)
      refine ok_gd (by rw [hvv]; exact okc_of hcodeR.1 hcodeR.2) (fun _ => ok_some ⟨hvv, o15, fun k p h1 h2 h3 h4 => ?_, fun p h1 h2 => ?_, ?_, ?_, ?_, ?_, ?_, fun j hj => ?_, fun w => ?_⟩)
      · rw [f15 k 0 p h4, t13 k p h1, f8 k p h2 h3 h1, k5 k 0 p h1]
      · rw [f15 26 0 p (by decide), u13 p (by omega), g8 p (by omega) (by omega) (by omega), z5 p h2]
      · rw [f15 26 0 9 (by decide), u13 9 (by omega), g8 9 (by omega) (by omega) (by omega), y5]
      · rw [f15 26 0 41 (by decide), v13.1]
      · rw [f15 26 0 42 (by decide), v13.2.1]
      · rw [f15 26 0 43 (by decide), v13.2.2.1]
      · rw [f15 26 0 44 (by decide), v13.2.2.2]
      · rw [h15 j (by rw [u13 39 (by omega)]; exact hj), t13 54 j (by decide)]
      · rw [g15, l13, l8 41 0 w (by omega), l5]
    obtain ⟨⟨M15, v15⟩, e2, hz, o15, f15, g15, th, y41, y42, y43, y44, y55, l15⟩ := hlast
    simp only at hz o15 f15 g15 th y41 y42 y43 y44 y55 l15
    have e1 : f_L_run X O p q = some (X18, u2 O 56 0 0 v17.toInt64, 0) := by
      unfold f_L_run f_X6_run
      rw [kataAt_in hX a, e0_inl, testAt_in hX c, e0_inl, w1, b0_some, if_neg (by rw [b1e]; decide), lq_e, eX16, hte, es, b1_some, gd_t (okc_of hcodeR.1 hcodeR.2)]
      rfl
    have fx : ∀ k i p : Nat, k < 16 ∨ 20 < k → k ≠ 0 → k < 100 → X18.1 k i p = X.1 k i p := fun k i p h h0 h1 => by
      rw [hs.1.same (by simp; omega), k16 k i p h0]
    have gx : ∀ p : Nat, p ≠ 15 → X18.1 0 0 p = X.1 0 0 p := fun p h => by rw [hs.1.same (by simp), z16 p h]
    have y18 : X18.1 0 0 15 = 1 := by rw [hs.1.same (by simp), y16]
    refine ⟨_, _, _, _, _, e1, e2, ⟨hs.1.oks, o15, ⟨?_, ?_, ?_, ?_, ?_, fun i => ?_⟩, ⟨?_, ?_, ?_, ?_, ?_⟩⟩, th, fun _ => ?_⟩
    · rw [fx 1 0 2 (by omega) (by omega) (by omega), g15 0 (by omega) (by omega), c1]
    · rw [fx 4 40 2 (by omega) (by omega) (by omega), g15 1 (by omega) (by omega), c2]
    · rw [fx 4 40 3 (by omega) (by omega) (by omega), g15 2 (by omega) (by omega), c3]
    · rw [gx 9 (by omega), g15 3 (by omega) (by omega), c4]
    · rw [gx 10 (by omega), g15 4 (by omega) (by omega), c5]
    · rw [fx 7 i 1 (by omega) (by omega) (by omega), f15 33 i (by omega) (by omega) (by omega) (by omega), c6]
    · exact hC.1.k (fx 1 0 2 (by omega) (by omega) (by omega)) (fun a => fx 2 0 a (by omega) (by omega) (by omega)) (fun a => fx 3 0 a (by omega) (by omega) (by omega)) (fun a _ => f15 27 a (by omega) (by omega) (by omega) (by omega)) (fun a _ => f15 28 a (by omega) (by omega) (by omega) (by omega))
    · exact hC.2.1.k (fx 4 40 2 (by omega) (by omega) (by omega)) (fx 4 40 3 (by omega) (by omega) (by omega)) (fun j => fx 5 40 j (by omega) (by omega) (by omega)) (fun j => fx 6 40 j (by omega) (by omega) (by omega)) (fun j => f15 30 j (by omega) (by omega) (by omega) (by omega)) (fun j => f15 31 j (by omega) (by omega) (by omega) (by omega))
    · exact hC.2.2.1.k (fun t _ => fx 4 t 2 (by omega) (by omega) (by omega)) (fun t _ => fx 4 t 3 (by omega) (by omega) (by omega)) (fun t j _ => fx 5 t j (by omega) (by omega) (by omega)) (fun t j _ => fx 6 t j (by omega) (by omega) (by omega)) (fun j => f15 34 j (by omega) (by omega) (by omega) (by omega)) (fun j => f15 35 j (by omega) (by omega) (by omega) (by omega)) (fun j => f15 36 j (by omega) (by omega) (by omega) (by omega)) (fun j => f15 37 j (by omega) (by omega) (by omega) (by omega))
    · exact hC.2.2.2.1.k (gx 11 (by omega)) (fun w => by rw [hs.1.same2 (by simp), l16]) (g15 5 (by omega) (by omega)) (fun w => l15 w)
    · refine ⟨by rw [y18, y41], fun _ => ⟨by rw [x1, y42, n1], by rw [x2, y43, n2], by rw [x3, y44, n3], fun j hj => ?_⟩⟩
      rw [x2] at hj
      rw [x7 j hj, y55 j (by rw [n2]; exact hj), n5 j hj]
    · rw [hz]
      rfl
/-! what the last run tells -/
theorem lastRun_no {X : SS} (h : X.1 0 0 15 = 0) : f_X6_lastRun X = some (.inr "java/util/NoSuchElementException") := by
  unfold f_X6_lastRun
  rw [if_pos h]
theorem lastRun_in {X : SS} (h : ¬ X.1 0 0 15 = 0) : f_X6_lastRun X = some (.inl 0) := by
  unfold f_X6_lastRun
  rw [if_neg h]
theorem t_done {X M O : SS} (hR : REL X M) : ∃ O2 k M2 b, f_L_done X O = some (O2, k) ∧ f_X7_done M = some (M2, b) ∧ REL X M2 ∧ AG O2 M2 k b := by
  have hC := hR.2.2.2.2.2.2.2
  by_cases c : X.1 0 0 15 = 0
  · exact ⟨O, 1, _, _, by unfold f_L_done f_X6_done; rw [lastRun_no c]; rfl, by unfold f_X7_done; rw [if_pos (by rw [← hC.1]; exact c)]; rfl, rel_fail hR 1 (by decide), up_s, fun z => absurd z (by decide)⟩
  · refine ⟨_, 0, _, _, by unfold f_L_done f_X6_done; rw [lastRun_in c]; rfl, by unfold f_X7_done; rw [if_neg (by rw [← hC.1]; exact c)]; rfl, rel_fail hR 0 (by decide), up_s, fun _ => ?_⟩
    simp [u2, up3, (hC.2 c).2.2.1]
theorem t_outputs {X M O : SS} (hR : REL X M) : ∃ O2 k M2 b, f_L_outputs X O = some (O2, k) ∧ f_X7_outputs M = some (M2, b) ∧ REL X M2 ∧ AG O2 M2 k b := by
  have hC := hR.2.2.2.2.2.2.2
  by_cases c : X.1 0 0 15 = 0
  · exact ⟨O, 1, _, _, by unfold f_L_outputs f_X6_outputs; rw [lastRun_no c]; rfl, by unfold f_X7_outputs; rw [if_pos (by rw [← hC.1]; exact c)]; rfl, rel_fail hR 1 (by decide), up_s, fun z => absurd z (by decide)⟩
  · refine ⟨_, 0, _, _, by unfold f_L_outputs f_X6_outputs; rw [lastRun_in c]; rfl, by unfold f_X7_outputs; rw [if_neg (by rw [← hC.1]; exact c)]; rfl, rel_fail hR 0 (by decide), up_s, fun _ => ?_⟩
    simp [u2, up3, (hC.2 c).2.1]
theorem t_depth {X M O : SS} (hR : REL X M) : ∃ O2 k M2 b, f_L_depth X O = some (O2, k) ∧ f_X7_depth M = some (M2, b) ∧ REL X M2 ∧ AG O2 M2 k b := by
  have hC := hR.2.2.2.2.2.2.2
  by_cases c : X.1 0 0 15 = 0
  · exact ⟨O, 1, _, _, by unfold f_L_depth f_X6_depth; rw [lastRun_no c]; rfl, by unfold f_X7_depth; rw [if_pos (by rw [← hC.1]; exact c)]; rfl, rel_fail hR 1 (by decide), up_s, fun z => absurd z (by decide)⟩
  · refine ⟨_, 0, _, _, by unfold f_L_depth f_X6_depth; rw [lastRun_in c]; rfl, by unfold f_X7_depth; rw [if_neg (by rw [← hC.1]; exact c)]; rfl, rel_fail hR 0 (by decide), up_s, fun _ => ?_⟩
    simp [u2, up3, (hC.2 c).1]
theorem t_output {X M O : SS} (hR : REL X M) (p : Int32) : ∃ O2 k M2 b, f_L_output X O p = some (O2, k) ∧ f_X7_output M p = some (M2, b) ∧ REL X M2 ∧ AG O2 M2 k b := by
  have hC := hR.2.2.2.2.2.2.2
  have r5 : (0 : Int32) ≤ X.1 16 0 5 ∧ X.1 16 0 5 ≤ (6 : Int32) := hR.1.at1 16 0 5
  by_cases c : X.1 0 0 15 = 0
  · exact ⟨O, 1, _, _, by unfold f_L_output f_X6_output; rw [lastRun_no c]; rfl, by unfold f_X7_output; rw [if_pos (by rw [← hC.1]; exact c)]; rfl, rel_fail hR 1 (by decide), up_s, fun z => absurd z (by decide)⟩
  · obtain ⟨h1, h2, h3, h4⟩ := hC.2 c
    by_cases a : p < 0 ∨ X.1 16 0 5 ≤ p
    · refine ⟨O, 1, u1 M 26 0 9 1, 0, ?_, ?_, rel_fail hR 1 (by decide), up_s, fun z => absurd z (by decide)⟩
      · unfold f_L_output f_X6_output
        rw [lastRun_in c, e0_inl]
        by_cases z : p < 0
        · rw [if_pos z]; rfl
        · rw [if_neg z, if_neg (by grind)]; rfl
      · unfold f_X7_output
        rw [if_neg (by rw [← hC.1]; exact c), in_eq, if_pos (show p < 0 ∨ M.1 26 0 43 - 1 < p by rw [← h2]; grind)]
        rfl
    · have hv : vp_in p 6 := vp_of (by decide) (by grind) (show p < (6 : Int32) by grind)
      refine ⟨u2 O 56 0 0 (X.1 18 0 p.toNatClampNeg).toInt64, 0, u1 M 26 0 9 0, M.1 55 0 p.toNatClampNeg, ?_, ?_, rel_fail hR 0 (by decide), up_s, fun _ => ?_⟩
      · unfold f_L_output f_X6_output
        rw [lastRun_in c, e0_inl, if_neg (fun z => a (Or.inl z)), if_pos (by grind), gd_t hv]
        rfl
      · unfold f_X7_output
        rw [if_neg (by rw [← hC.1]; exact c), in_eq, if_neg (show ¬ (p < 0 ∨ M.1 26 0 43 - 1 < p) by rw [← h2]; grind), b0_some, if_neg (by decide), gd_t hv]
        rfl
      · simp [u2, up3, h4 p.toNatClampNeg (cl_mono (by grind) (by grind))]
