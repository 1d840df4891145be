/-! challenge -/
theorem challenge_inv {X : SS} (hX : OKS X) (hi : INV X) (p q : Int32) : ok (f_X6_challenge X p q) (fun r => OKS r.1 ∧ INV r.1) := by
  have r10 : (0 : Int32) ≤ X.1 0 0 10 ∧ X.1 0 0 10 ≤ (10 : Int32) := hX.at1 0 0 10
  have r11 : (0 : Int32) ≤ X.1 0 0 11 ∧ X.1 0 0 11 ≤ (40 : Int32) := hX.at1 0 0 11
  have r12 : (0 : Int32) ≤ X.1 0 0 12 ∧ X.1 0 0 12 ≤ (8 : Int32) := hX.at1 0 0 12
  unfold f_X6_challenge
  by_cases a : p < 0 ∨ X.1 0 0 10 ≤ p
  · rw [memberAt_no a, e0_inr]
    exact ok_some ⟨hX, hi⟩
  rw [memberAt_in hX a, e0_inl]
  by_cases c : q < 0 ∨ X.1 0 0 11 ≤ q
  · rw [workAt_no c, e0_inr]
    exact ok_some ⟨hX, hi⟩
  rw [workAt_in hX c, e0_inl]
  have hp : (0 : Int32) ≤ p ∧ p ≤ (9 : Int32) := ⟨by grind, by grind⟩
  have hq : (0 : Int32) ≤ q ∧ q ≤ (39 : Int32) := ⟨by grind, by grind⟩
  have hw : q.toNatClampNeg < WK X := cl_mono (by grind) (by grind)
  have eq_ : nI q.toNatClampNeg = q := cl_nI hq.1
  have hW := WK_40 hX
  generalize q.toNatClampNeg = w at hw eq_
  generalize p.toNatClampNeg = m
  refine ok_ite (fun _ => ok_some ⟨hX, hi⟩) (fun _ => ok_ite (fun h112 => ?_) (fun _ => ok_some ⟨hX, hi⟩))
  refine ok_ite (fun _ => ok_ite (fun hn => ?_) (fun _ => ok_some ⟨hX, hi⟩)) (fun _ => ok_some ⟨hX, hi⟩)
  refine ok_lq (fun X17 e17 => ok_lq (fun X18 e18 => ok_lq (fun X19 e19 => ok_lq (fun X20 e20 => ?_))))
  have h17 : OKS X17 := by rw [e17]; have i : IV TT X (u1 X 9 m 3 (X.1 9 m 3 - 2)) := IV.w1f hX rfl trivial rfl; exact i.oks
  have h18 : OKS X18 := by rw [e18]; have i : IV TT X17 (u1 X17 12 w 11 99) := IV.w1 h17 rfl trivial (show (0 : Int32) ≤ (99 : Int32) ∧ (99 : Int32) ≤ (65535 : Int32) from ⟨by decide, by decide⟩); exact i.oks
  have h19 : OKS X19 := by rw [e19]; have i : IV TT X18 (u1 X18 12 w 15 p) := IV.w1 h18 rfl trivial hp; exact i.oks
  have h20 : OKS X20 := by rw [e20]; have i : IV TT X19 (u1 X19 12 w 16 7) := IV.w1f h19 rfl trivial rfl; exact i.oks
  have f20 : ∀ k i p : Nat, ¬ (k = 9 ∧ p = 3) → ¬ (k = 12 ∧ i = w ∧ (p = 11 ∨ p = 15 ∨ p = 16)) → X20.1 k i p = X.1 k i p := fun k i p g1 g2 => by
    rw [e20, up_e, if_neg (fun z => g2 ⟨z.1, z.2.1, by omega⟩), e19, up_e, if_neg (fun z => g2 ⟨z.1, z.2.1, by omega⟩), e18, up_e, if_neg (fun z => g2 ⟨z.1, z.2.1, by omega⟩), e17, up_e, if_neg (fun z => g1 ⟨z.1, z.2.2⟩)]
  have s20 : X20.1 12 w 11 = 99 := by rw [e20, up_p (by decide), e19, up_p (by decide), e18, up_s]
  have g20 : X20.2 = X.2 := by rw [e20, e19, e18, e17]; rfl
  have c20 : X20.1 0 0 12 = X.1 0 0 12 := f20 0 0 12 (by omega) (by omega)
  rw [c20]
  have v12 : vp_in (X.1 0 0 12) 8 := vp_of (by decide) r12.1 (show X.1 0 0 12 < (8 : Int32) from hn)
  have e12 := cl_nI r12.1
  have n8 := cl_lt v12
  refine ok_gd v12 (fun _ => ok_lq (fun X22 e22 => ok_lq (fun X23 e23 => ok_some ?_)))
  show OKS X23 ∧ INV X23
  have h22 : OKS X22 := by rw [e22]; have i : IV TT X20 (u1 X20 24 0 (X.1 0 0 12).toNatClampNeg q) := IV.w1 h20 rfl trivial hq; exact i.oks
  have c22 : X22.1 0 0 12 = X.1 0 0 12 := by rw [e22, up_k (by decide), c20]
  rw [c22] at e23
  have h23 : OKS X23 := by rw [e23]; have i : IV TT X22 (u1 X22 0 0 12 (X.1 0 0 12 + 1)) := IV.w1 h22 rfl trivial (show (0 : Int32) ≤ X.1 0 0 12 + 1 ∧ X.1 0 0 12 + 1 ≤ (8 : Int32) from ⟨by grind, by grind⟩); exact i.oks
  generalize hnn : (X.1 0 0 12).toNatClampNeg = nn at *
  have f23 : ∀ k i p : Nat, ¬ (k = 9 ∧ p = 3) → ¬ (k = 12 ∧ i = w ∧ (p = 11 ∨ p = 15 ∨ p = 16)) → ¬ (k = 24 ∧ i = 0 ∧ p = nn) → ¬ (k = 0 ∧ i = 0 ∧ p = 12) → X23.1 k i p = X.1 k i p := fun k i p g1 g2 g3 g4 => by
    rw [e23, up_e, if_neg g4, e22, up_e, if_neg g3, f20 k i p g1 g2]
  have s23 : X23.1 12 w 11 = 99 := by rw [e23, up_k (by decide), e22, up_k (by decide), s20]
  have g23 : X23.2 = X.2 := by rw [e23, e22]; exact g20
  have n23 : (X23.1 0 0 12).toNatClampNeg = nn + 1 := by rw [e23, up_s, ← e12, nI_1, nI_clamp (by omega)]
  have l23 : X23.1 24 0 nn = q := by rw [e23, up_k (by decide), e22, up_s]
  have hkt : KT X X23 := ⟨fun t _ => ⟨f23 4 t 2 (by omega) (by omega) (by omega) (by omega), f23 4 t 3 (by omega) (by omega) (by omega) (by omega), funext fun a => f23 5 t a (by omega) (by omega) (by omega) (by omega), funext fun a => f23 6 t a (by omega) (by omega) (by omega) (by omega)⟩, fun k => f23 7 k 1 (by omega) (by omega) (by omega) (by omega)⟩
  have hkp : ∀ i : Nat, KP X X23 i := fun i => ⟨f23 1 i 2 (by omega) (by omega) (by omega) (by omega), funext fun a => f23 2 i a (by omega) (by omega) (by omega) (by omega), funext fun a => f23 3 i a (by omega) (by omega) (by omega) (by omega)⟩
  have eW : WK X23 = WK X := by
    unfold WK
    rw [f23 0 0 11 (by omega) (by omega) (by omega) (by omega)]
  obtain ⟨a1, a2, a3, a4, a5, a6⟩ := hi
  have hb : X.1 12 w 12 = 0 := Classical.byContradiction fun z => by
    have := (a2 w hw z).2
    rw [h112] at this
    rcases VD_2 X (w + 1) (X.1 12 w 8).toNatClampNeg with y | y <;> rw [y] at this <;> exact absurd this (by decide)
  refine ⟨h23, ?_, fun v hv => ?_, ?_, ?_, ?_, ?_⟩
  · unfold ROM at a1 ⊢
    rw [eW, f23 0 0 13 (by omega) (by omega) (by omega) (by omega), nbX_cong (X := X) (Y := X23) _ (fun j _ => by rw [f23 12 j 12 (by omega) (by omega) (by omega) (by omega)])]
    exact a1
  · rw [eW] at hv
    by_cases y : v = w
    · intro z
      rw [y, f23 12 w 12 (by omega) (by omega) (by omega) (by omega)] at z
      exact absurd hb z
    · exact bd1_keep hX hkt (hkp (v + 1)) (by rw [g23]) (f23 12 v 8 (by omega) (by omega) (by omega) (by omega)) (f23 12 v 11 (by omega) (by omega) (by omega) (by omega)) (f23 12 v 12 (by omega) (by omega) (by omega) (by omega)) (a2 v hv)
  · exact vot_keep (fun v => ⟨f23 12 v 5 (by omega) (by omega) (by omega) (by omega), f23 12 v 6 (by omega) (by omega) (by omega) (by omega)⟩) (fun v m => ⟨f23 14 v m (by omega) (by omega) (by omega) (by omega), f23 15 v m (by omega) (by omega) (by omega) (by omega)⟩) a3
  · exact cpy_keep hX a5 (fun i _ => hkp i) (fun m => f23 9 m 2 (by omega) (by omega) (by omega) (by omega)) (fun m j => f23 11 m j (by omega) (by omega) (by omega) (by omega)) (fun m j => by rw [g23]) (by omega) (fun v _ => by rw [g23]) a4
  · exact ref_keep (fun m j => by rw [g23]) a5
  · obtain ⟨c1, c2, c3⟩ := a6
    change ∀ a : Nat, a < (X.1 0 0 12).toNatClampNeg → (X.1 24 0 a).toNatClampNeg < WK X ∧ _ at c1
    change c9 X (WK X) = _ at c3
    rw [hnn] at c1 c2 c3
    have h99 : ¬ X.1 12 w 11 = 99 := by rw [h112]; decide
    have old : ∀ a, a < nn → X23.1 24 0 a = X.1 24 0 a ∧ ¬ (X.1 24 0 a).toNatClampNeg = w := fun a ha => ⟨f23 24 0 a (by omega) (by omega) (by omega) (by omega), fun z => by
      have := (c1 a ha).2
      rw [z] at this
      exact h99 this⟩
    refine ⟨fun a ha => ?_, fun a b h1 h2 h3 => ?_, ?_⟩
    · show _ < WK X23 ∧ _
      rw [n23] at ha
      rw [eW]
      by_cases y : a = nn
      · rw [y, l23, ← eq_, nI_clamp (by omega)]
        exact ⟨hw, s23⟩
      · obtain ⟨o1, o2⟩ := old a (by omega)
        obtain ⟨d1, d2⟩ := c1 a (by omega)
        rw [o1]
        exact ⟨d1, by rw [f23 12 _ 11 (by omega) (by omega) (by omega) (by omega)]; exact d2⟩
    · rw [n23] at h2
      rw [(old a (by omega)).1] at h3
      by_cases y : b = nn
      · rw [y, l23, ← eq_] at h3
        exact (old a (by omega)).2 (by rw [h3, nI_clamp (by omega)])
      · rw [(old b (by omega)).1] at h3
        exact c2 a b h1 (by omega) h3
    · show c9 X23 (WK X23) = _
      have := c9_set (X := X) (Y := X23) (w := w) h99 s23 (fun v hv => by rw [f23 12 v 11 (by omega) (by omega) (by omega) (by omega)]) (WK X)
      rw [if_pos hw] at this
      rw [eW, n23]
      omega
/-! a challenge closed by a body -/
theorem cb_eq {X : SS} (hX : OKS X) (hi : INV X) {w i2 : Nat} (hw : w < WK X) (h99 : X.1 12 w 11 = 99) (hp : PRG X i2 w) (hi2 : i2 ≠ w + 1) (i3 : Nat) : ok (f_X6_closeByBody X (nI w) i2 i3) (fun r => OKS r.1 ∧ INV r.1 ∧ (r.2 = 115 ∨ r.2 = 98)) := by
  have hW := WK_40 hX
  unfold f_X6_closeByBody
  refine ok_gd (nI_in (by omega) (by decide)) (fun _ => ?_)
  rw [nI_clamp (by omega)]
  obtain ⟨a1, a2, a3, a4, a5, a6⟩ := hi
  refine ok_b1 (cc_eq hX a6 hw h99) (fun X3 v2 y => ?_)
  obtain ⟨h3, f3, g3, b3, n3⟩ := y
  simp only at h3 f3 g3 b3 n3
  have hreg : ok (f_X5_regain X3 w i2) (fun r => OKS r.1 ∧ (∀ k i p : Nat, ¬ (k = 24 ∧ i = 0) → ¬ (k = 0 ∧ i = 0 ∧ p = 12) → ¬ (i = w + 1 ∧ (k = 1 ∨ k = 2 ∨ k = 3)) → ¬ (k = 12 ∧ i = w ∧ p = 12) → r.1.1 k i p = X.1 k i p) ∧ (∀ k i p : Nat, k = 24 ∨ k = 0 → r.1.1 k i p = X3.1 k i p) ∧ r.1.2 = X.2 ∧ PRG r.1 (w + 1) w) := by
    unfold f_X5_regain
    refine ok_b1 (tp_eq h3 (i := w + 1) (j := i2) hi2) (fun Y v1 g => ?_)
    obtain ⟨t1, t2, t3, t4, t5⟩ := g
    simp only at t1 t2 t3 t4 t5
    refine ok_lq (fun X4 e4 => ok_some ?_)
    have h4 : OKS X4 := by rw [e4]; have i : IV TT Y (u1 Y 12 w 12 1) := IV.w1 t1 rfl trivial (show (0 : Int32) ≤ (1 : Int32) ∧ (1 : Int32) ≤ (1 : Int32) from ⟨by decide, by decide⟩); exact i.oks
    have x1 : X3.1 1 i2 2 = X.1 1 i2 2 := f3 1 i2 2 (by omega) (by omega)
    have tp := tp_prg (X := X) (Y := X4) (i := w + 1) (j := i2) (w := w) (by rw [e4, up_k (by decide), t2, x1]) (fun a ha => by
      have := t5 a (by rw [x1]; exact ha)
      rw [e4, up_k (by decide), up_k (by decide), this.1, this.2, f3 2 i2 a (by omega) (by omega), f3 3 i2 a (by omega) (by omega)]
      exact ⟨rfl, rfl⟩)
    have g4 : X4.2 = X.2 := by
      rw [e4]
      show Y.2 = X.2
      rw [t4, g3]
    refine ⟨h4, fun k i p d1 d2 d3 d4 => ?_, fun k i p d => ?_, g4, tp.1 hp.1, ?_⟩
    · show X4.1 k i p = _
      rw [e4, up_e, if_neg d4, t3 k i p d3, f3 k i p d1 d2]
    · show X4.1 k i p = _
      rw [e4, up_k (by omega), t3 k i p (by omega)]
    · show SM (X4.1 2 (w + 1)) (X4.1 3 (w + 1)) (X4.1 1 (w + 1) 2).toNatClampNeg = X4.2.1 12 w 10
      rw [tp.2, g4]
      exact hp.2
  refine ok_b1 hreg (fun X6 v5 y => ?_)
  obtain ⟨h6, f6, l6, g6, p6⟩ := y
  simp only at h6 f6 l6 g6 p6
  refine ok_b1 (vd_eq h6 p6.1) (fun X9 v8 y => ?_)
  obtain ⟨h9, f9, e9⟩ := y
  simp only at h9 f9 e9
  have rv : (0 : Int32) ≤ v8 ∧ v8 ≤ (65535 : Int32) ∧ ¬ v8 = 99 := by
    rw [e9]
    rcases VD_2 X6 (w + 1) (X6.1 12 w 8).toNatClampNeg with z | z <;> rw [z] <;> decide
  refine ok_gd (okc_of rv.1 rv.2.1) (fun _ => ok_lq (fun X12 e12 => ?_))
  have h12 : OKS X12 := by rw [e12]; have i : IV TT X9 (u1 X9 12 w 11 v8) := IV.w1 h9 rfl trivial ⟨rv.1, rv.2.1⟩; exact i.oks
  have f126 : ∀ k i p : Nat, k < 16 ∨ 20 < k → ¬ (k = 12 ∧ i = w ∧ p = 11) → X12.1 k i p = X6.1 k i p := fun k i p d1 d2 => by rw [e12, up_e, if_neg d2, f9.1 k i p d1]
  have f12 : ∀ k i p : Nat, k < 16 ∨ 20 < k → ¬ (k = 24 ∧ i = 0) → ¬ (k = 0 ∧ i = 0 ∧ p = 12) → ¬ (i = w + 1 ∧ (k = 1 ∨ k = 2 ∨ k = 3)) → ¬ (k = 12 ∧ i = w ∧ (p = 11 ∨ p = 12)) → X12.1 k i p = X.1 k i p := fun k i p d0 d1 d2 d3 d4 => by rw [f126 k i p d0 (by omega), f6 k i p d1 d2 d3 (by omega)]
  have s12 : ∀ v : Nat, X12.2.1 12 v 10 = X.2.1 12 v 10 := fun v => by
    rw [e12]
    show X9.2.1 12 v 10 = _
    rw [f9.2.1 12 v 10, g6]
  have r12 : ∀ m j : Nat, X12.2.2.1 10 m j = X.2.2.1 10 m j := fun m j => by
    rw [e12]
    show X9.2.2.1 10 m j = _
    rw [f9.2.2 10 m j, g6]
  have eW : WK X12 = WK X := by
    unfold WK
    rw [f12 0 0 11 (by omega) (by omega) (by omega) (by omega) (by omega)]
  have st12 : X12.1 12 w 11 = v8 := by rw [e12, up_s]
  have hkt : KT X X12 := ⟨fun t _ => ⟨f12 4 t 2 (by omega) (by omega) (by omega) (by omega) (by omega), f12 4 t 3 (by omega) (by omega) (by omega) (by omega) (by omega), funext fun a => f12 5 t a (by omega) (by omega) (by omega) (by omega) (by omega), funext fun a => f12 6 t a (by omega) (by omega) (by omega) (by omega) (by omega)⟩, fun k => f12 7 k 1 (by omega) (by omega) (by omega) (by omega) (by omega)⟩
  have hkp : ∀ i : Nat, i ≠ w + 1 → KP X X12 i := fun i h => ⟨f12 1 i 2 (by omega) (by omega) (by omega) (by omega) (by omega), funext fun a => f12 2 i a (by omega) (by omega) (by omega) (by omega) (by omega), funext fun a => f12 3 i a (by omega) (by omega) (by omega) (by omega) (by omega)⟩
  have hkt6 : KT X6 X12 := ⟨fun t _ => ⟨f126 4 t 2 (by omega) (by omega), f126 4 t 3 (by omega) (by omega), funext fun a => f126 5 t a (by omega) (by omega), funext fun a => f126 6 t a (by omega) (by omega)⟩, fun k => f126 7 k 1 (by omega) (by omega)⟩
  have hkp6 : ∀ i : Nat, KP X6 X12 i := fun i => ⟨f126 1 i 2 (by omega) (by omega), funext fun a => f126 2 i a (by omega) (by omega), funext fun a => f126 3 i a (by omega) (by omega)⟩
  have l12 : ∀ k i p : Nat, k = 24 ∨ k = 0 → X12.1 k i p = X3.1 k i p := fun k i p d => by rw [f126 k i p (by omega) (by omega), l6 k i p d]
  have in12 : IN1 X12 := by
    refine ⟨fun v hv => ?_, ?_, ?_, ?_, ?_⟩
    · rw [eW] at hv
      by_cases y : v = w
      · rw [y]
        intro _
        refine ⟨(hkp6 (w + 1)).prg (by rw [s12, g6]) p6, ?_⟩
        rw [st12, e9, f126 12 w 8 (by omega) (by omega), hkt6.vd h6 (hkp6 (w + 1)) (k8_lt h6 w)]
      · exact bd1_keep hX hkt (hkp (v + 1) (by omega)) (s12 v) (f12 12 v 8 (by omega) (by omega) (by omega) (by omega) (by omega)) (f12 12 v 11 (by omega) (by omega) (by omega) (by omega) (by omega)) (f12 12 v 12 (by omega) (by omega) (by omega) (by omega) (by omega)) (a2 v hv)
    · exact vot_keep (fun v => ⟨f12 12 v 5 (by omega) (by omega) (by omega) (by omega) (by omega), f12 12 v 6 (by omega) (by omega) (by omega) (by omega) (by omega)⟩) (fun v m => ⟨f12 14 v m (by omega) (by omega) (by omega) (by omega) (by omega), f12 15 v m (by omega) (by omega) (by omega) (by omega) (by omega)⟩) a3
    · exact cpy_keep hX a5 (fun i h => hkp i (by omega)) (fun m => f12 9 m 2 (by omega) (by omega) (by omega) (by omega) (by omega)) (fun m j => f12 11 m j (by omega) (by omega) (by omega) (by omega) (by omega)) r12 (by omega) (fun v _ => s12 v) a4
    · exact ref_keep r12 a5
    · exact b3.set (l12 0 0 11 (by omega)) (l12 0 0 12 (by omega)) (fun a => l12 24 0 a (by omega)) (fun v hv => by rw [f12 12 v 11 (by omega) (by omega) (by omega) (by omega) (by omega), f3 12 v 11 (by omega) (by omega)]) (by rw [st12]; exact rv.2.2)
  refine ok_b1 (mk_eq h12 in12) (fun X14 v13 y => ?_)
  obtain ⟨h14, i14, w14⟩ := y
  simp only at h14 i14 w14
  have nine : ∀ (m : Nat) (x : Int32), OKS (u1 X14 9 m 3 x) ∧ INV (u1 X14 9 m 3 x) := fun m x => by
    have i : IV TT X14 (u1 X14 9 m 3 x) := IV.w1f h14 rfl trivial rfl
    have k : KI X14 (u1 X14 9 m 3 x) := ⟨fun a b c z => by
      rw [up_e, if_neg]
      rintro ⟨rfl, -, rfl⟩
      simp [IC] at z, fun _ => rfl, fun _ _ => rfl⟩
    exact ⟨i.oks, k.inv h14 i14⟩
  refine ok_ite (fun _ => ?_) (fun _ => ?_)
  · rw [lq_e]
    exact ok_some ⟨(nine _ _).1, (nine _ _).2, Or.inl rfl⟩
  · have r15 : (0 : Int32) ≤ X14.1 12 w 15 ∧ X14.1 12 w 15 ≤ (9 : Int32) := h14.at1 12 w 15
    refine ok_gd (vp_of (by decide) r15.1 (show X14.1 12 w 15 < (10 : Int32) by grind)) (fun _ => ok_lq (fun X18 e18 => ?_))
    have h18 : OKS X18 := by rw [e18]; exact (nine _ _).1
    have i18 : INV X18 := by rw [e18]; exact (nine _ _).2
    have w18 : WK X18 = WK X := by
      rw [← eW, ← w14]
      unfold WK
      rw [e18, up_k (by decide)]
    refine ok_ite (fun _ => ok_some ⟨h18, i18, Or.inr rfl⟩) (fun z => ?_)
    refine ok_b1 (db_in h18 i18.2 (by omega) z) (fun X21 v20 y => ok_some ?_)
    obtain ⟨y1, y2, y3, y4, y5⟩ := y
    simp only at y1 y2 y3 y4 y5
    refine ⟨y1, IN1.rom y2 ?_, Or.inr rfl⟩
    have := i18.1
    unfold ROM at this
    show nbX X21 (WK X21) ≤ (X21.1 0 0 13).toNatClampNeg
    rw [y3, y5]
    omega
theorem okc_2 {x : Int32} (h : x = 115 ∨ x = 98) : okc x := by
  rcases h with rfl | rfl
  · exact okc_of (by decide) (by decide)
  · exact okc_of (by decide) (by decide)
theorem give_inv {X : SS} (hX : OKS X) (hi : INV X) (p q : Int32) : ok (f_X6_give X p q) (fun r => OKS r.1 ∧ INV r.1) := by
  have r10 : (0 : Int32) ≤ X.1 0 0 10 ∧ X.1 0 0 10 ≤ (10 : Int32) := hX.at1 0 0 10
  have hW := WK_40 hX
  unfold f_X6_give
  by_cases a : p < 0 ∨ X.1 0 0 10 ≤ p
  · rw [memberAt_no a, e0_inr]
    exact ok_some ⟨hX, hi⟩
  rw [memberAt_in hX a, e0_inl]
  by_cases c : q < 0 ∨ X.1 0 0 11 ≤ q
  · rw [workAt_no c, e0_inr]
    exact ok_some ⟨hX, hi⟩
  rw [workAt_in hX c, e0_inl]
  have hm : p.toNatClampNeg < 10 := cl_lt (vp_of (by decide) (by grind) (show p < (10 : Int32) by grind))
  have hw : q.toNatClampNeg < WK X := cl_mono (by grind) (by grind)
  have eq_ : nI q.toNatClampNeg = q := cl_nI (by grind)
  generalize q.toNatClampNeg = w at hw eq_
  generalize p.toNatClampNeg = m at hm
  refine ok_ite (fun h99 => ?_) (fun _ => ok_some ⟨hX, hi⟩)
  have r9 : (0 : Int32) ≤ X.1 9 m 2 ∧ X.1 9 m 2 ≤ (3 : Int32) := hX.at1 9 m 2
  have c3 := c9_2 hX m
  refine ok_b0 (pc_eq (cnt := (X.1 9 m 2).toNatClampNeg) (p := q) c3 (cl_nI r9.1).symm) (fun v14 y => ?_)
  refine ok_ite (fun _ => ok_some ⟨hX, hi⟩) (fun z => ?_)
  rcases y with y | ⟨j, hj, y, ej⟩
  · exact absurd y z
  rw [y]
  have rj := hX.at3 hm (show j < 3 by omega)
  refine ok_gd (nI_in (by omega) (by decide)) (fun _ => ?_)
  rw [nI_clamp (by omega)]
  refine ok_gd rj.2 (fun _ => ?_)
  obtain ⟨d1, d2, d3⟩ := hi.2.2.2.1 m hm j hj
  rw [ej, ← eq_, nI_clamp (by omega)] at d3
  have h := cb_eq hX hi hw h99 d3 (by omega) m
  rw [eq_] at h
  exact ok_b1 h (fun X20 v19 y => ok_gd (okc_2 y.2.2) (fun _ => ok_some ⟨y.1, y.2.1⟩))
theorem lg_eq {a b : Int64} (h : lg_cmp a b = 0) : a = b := by
  unfold lg_cmp at h
  split at h
  · exact absurd h (by decide)
  · split at h
    · assumption
    · exact absurd h (by decide)
theorem tb_eq {X : SS} (hX : OKS X) (w : Nat) : ok (f_X6_isTheBody X 0 w) (fun r => OKS r.1 ∧ FB X r.1 ∧ (¬ r.2 = 0 → SM (X.1 2 0) (X.1 3 0) (X.1 1 0 2).toNatClampNeg = X.2.1 12 w 10)) := by
  by_cases z : SM (X.1 2 0) (X.1 3 0) (X.1 1 0 2).toNatClampNeg = X.2.1 12 w 10
  · exact ok_imp (w_X6_isTheBody X hX 0 w) (fun r y => ⟨y.1.oks, ⟨fun k i p h => y.1.same (by simp; omega), fun k i p => y.1.same2 (by omega), fun k i p => y.1.same3 (by omega)⟩, fun _ => z⟩)
  · unfold f_X6_isTheBody
    refine ok_ite (fun _ => ok_b0e (sx_eq hX 0) (ok_ite (fun q => absurd (lg_eq q) z) (fun _ => ok_some ⟨hX, FB.refl X, fun q => absurd rfl q⟩))) (fun _ => ok_some ⟨hX, FB.refl X, fun q => absurd rfl q⟩)
theorem answer_inv {X : SS} (hX : OKS X) (hi : INV X) (p q : Int32) : ok (f_X6_answer X p q) (fun r => OKS r.1 ∧ INV r.1) := by
  have hW := WK_40 hX
  unfold f_X6_answer
  by_cases a : p < 0 ∨ X.1 0 0 10 ≤ p
  · rw [memberAt_no a, e0_inr]
    exact ok_some ⟨hX, hi⟩
  rw [memberAt_in hX a, e0_inl]
  by_cases c : q < 0 ∨ X.1 0 0 11 ≤ q
  · rw [workAt_no c, e0_inr]
    exact ok_some ⟨hX, hi⟩
  rw [workAt_in hX c, e0_inl]
  have hw : q.toNatClampNeg < WK X := cl_mono (by grind) (by grind)
  have eq_ : nI q.toNatClampNeg = q := cl_nI (by grind)
  generalize q.toNatClampNeg = w at hw eq_
  refine ok_ite (fun h99 => ?_) (fun _ => ok_some ⟨hX, hi⟩)
  obtain ⟨b, w1, w2, w3⟩ := wX_eq hX 0
  refine ok_b0e w1 (ok_ite (fun _ => ok_some ⟨hX, hi⟩) (fun b1 => ?_))
  have hwh := w3.mp (w2.elim (fun z => absurd z b1) id)
  refine ok_b1 (tb_eq hX w) (fun X18 v17 y => ?_)
  obtain ⟨y1, y2, y3⟩ := y
  simp only at y1 y2 y3
  have i18 := y2.ki.inv hX hi
  refine ok_ite (fun _ => ok_some ⟨y1, i18⟩) (fun z => ?_)
  have hp : PRG X18 0 w := by
    unfold PRG
    rw [y2.fn (k := 2) (by omega) 0, y2.fn (k := 3) (by omega) 0, y2.1 1 0 2 (by omega), y2.2.1 12 w 10]
    exact ⟨hwh, y3 z⟩
  have h := cb_eq y1 i18 (by rw [y2.ki.wk]; exact hw) (by rw [y2.1 12 w 11 (by omega)]; exact h99) hp (by omega) p.toNatClampNeg
  rw [eq_] at h
  exact ok_b1 h (fun X20 v19 y => ok_gd (okc_2 y.2.2) (fun _ => ok_some ⟨y.1, y.2.1⟩))
/-! days -/
theorem dy_L31 (p0 : Int32) : ∀ (n a : Nat) (b : Int32) (X : SS), a + 1 ≤ n → a ≤ (X.1 0 0 12).toNatClampNeg → OKS X → INV X → ok (f_X6_days_L31 p0 n (nI a - 1) b X (fun v5 X6 => some (X6, (.inl v5)))) (fun r => OKS r.1 ∧ INV r.1) := by
  intro n
  induction n with
  | zero => intro a b X h1; omega
  | succ n ih =>
    intro a b X h1 h2 hX hi
    have hW := WK_40 hX
    have r12 : (0 : Int32) ≤ X.1 0 0 12 ∧ X.1 0 0 12 ≤ (8 : Int32) := hX.at1 0 0 12
    have hn8 : (X.1 0 0 12).toNatClampNeg ≤ 8 := cl_le r12.2 (by decide)
    rw [f_X6_days_L31]
    cases a with
    | zero => exact ok_ite (fun _ => ok_some ⟨hX, hi⟩) (fun z => absurd (show (nI 0 - 1 : Int32) < 0 by decide) z)
    | succ a =>
      rw [nI_pred]
      refine ok_ite (fun z => absurd z (by
        have := nI_pos' (n := a) (by omega)
        grind)) (fun _ => ?_)
      refine ok_gd (nI_in (by omega) (by decide)) (fun _ => ?_)
      rw [nI_clamp (by omega), lq_e, show nI a + (-1 : Int32) = nI a - 1 by grind]
      obtain ⟨d1, d2⟩ := hi.2.2.2.2.2.1 a (by omega)
      have ew : nI (X.1 24 0 a).toNatClampNeg = X.1 24 0 a := cl_nI (o24 hX a).1
      change (X.1 24 0 a).toNatClampNeg < WK X at d1
      have hv : vp_in (X.1 24 0 a) 40 := vp_of (by decide) (o24 hX a).1 (show X.1 24 0 a < (40 : Int32) by have := (o24 hX a).2; grind)
      refine ok_gd hv (fun _ => ok_lq (fun X14 e14 => ok_gd hv (fun _ => ?_)))
      generalize hw : (X.1 24 0 a).toNatClampNeg = w at *
      have h14 : OKS X14 := by rw [e14]; have i : IV TT X (u1 X 12 w 16 (X.1 12 w 16 - p0)) := IV.w1f hX rfl trivial rfl; exact i.oks
      have k14 : KI X X14 := ⟨fun k i p z => by
        rw [e14, up_e, if_neg]
        rintro ⟨rfl, -, rfl⟩
        simp [IC] at z, fun _ => by rw [e14]; rfl, fun _ _ => by rw [e14]; rfl⟩
      have i14 := k14.inv hX hi
      have n14 : X14.1 0 0 12 = X.1 0 0 12 := by rw [e14, up_k (by decide)]
      refine ok_ite (fun _ => ih a b X14 (by omega) (by rw [n14]; omega) h14 i14) (fun _ => ?_)
      rw [← ew]
      refine ok_b1 (cc_eq h14 i14.2.2.2.2.2 (w := w) (by rw [k14.wk]; exact d1) (by rw [e14, up_p (by decide)]; exact d2)) (fun X18 v17 y => ?_)
      obtain ⟨h18, f18, g18, b18, n18⟩ := y
      simp only at h18 f18 g18 b18 n18
      have hv2 : vp_in (nI w) 40 := nI_in (by omega) (by decide)
      refine ok_gd hv2 (fun _ => ok_lq (fun X21 e21 => ok_gd hv2 (fun _ => ?_)))
      have h21 : OKS X21 := by rw [e21]; have i : IV TT X18 (u1 X18 12 w 11 98) := IV.w1 h18 rfl trivial (show (0 : Int32) ≤ (98 : Int32) ∧ (98 : Int32) ≤ (65535 : Int32) from ⟨by decide, by decide⟩); exact i.oks
      have r15 : (0 : Int32) ≤ X21.1 12 w 15 ∧ X21.1 12 w 15 ≤ (9 : Int32) := h21.at1 12 w 15
      refine ok_gd (vp_of (by decide) r15.1 (show X21.1 12 w 15 < (10 : Int32) by grind)) (fun _ => ok_lq (fun X24 e24 => ?_))
      have h24 : OKS X24 := by rw [e24]; have i : IV TT X21 (u1 X21 9 (X21.1 12 w 15).toNatClampNeg 3 (X21.1 9 (X21.1 12 w 15).toNatClampNeg 3 + 5)) := IV.w1f h21 rfl trivial rfl; exact i.oks
      have f24 : ∀ k i p : Nat, ¬ (k = 24 ∧ i = 0) → ¬ (k = 0 ∧ i = 0 ∧ p = 12) → ¬ (k = 12 ∧ i = w ∧ p = 11) → ¬ (k = 9 ∧ p = 3) → X24.1 k i p = X14.1 k i p := fun k i p g1 g2 g3 g4 => by rw [e24, up_e, if_neg (fun z => g4 ⟨z.1, z.2.2⟩), e21, up_e, if_neg g3, f18 k i p g1 g2]
      have l24 : ∀ k i p : Nat, k = 24 ∨ k = 0 → X24.1 k i p = X18.1 k i p := fun k i p g => by rw [e24, up_k (by omega), e21, up_k (by omega)]
      have s24 : X24.1 12 w 11 = 98 := by rw [e24, up_k (by decide), e21, up_s]
      have g24 : X24.2 = X14.2 := by
        rw [e24, e21]
        exact g18
      have hkt : KT X14 X24 := ⟨fun t _ => ⟨f24 4 t 2 (by omega) (by omega) (by omega) (by omega), f24 4 t 3 (by omega) (by omega) (by omega) (by omega), funext fun a => f24 5 t a (by omega) (by omega) (by omega) (by omega), funext fun a => f24 6 t a (by omega) (by omega) (by omega) (by omega)⟩, fun k => f24 7 k 1 (by omega) (by omega) (by omega) (by omega)⟩
      have hkp : ∀ i : Nat, KP X14 X24 i := fun i => ⟨f24 1 i 2 (by omega) (by omega) (by omega) (by omega), funext fun a => f24 2 i a (by omega) (by omega) (by omega) (by omega), funext fun a => f24 3 i a (by omega) (by omega) (by omega) (by omega)⟩
      have eW : WK X24 = WK X14 := by
        unfold WK
        rw [f24 0 0 11 (by omega) (by omega) (by omega) (by omega)]
      have st14 : X14.1 12 w 11 = 99 := by rw [e14, up_p (by decide)]; exact d2
      obtain ⟨a1, a2, a3, a4, a5, a6⟩ := i14
      refine ih a (b + 1) X24 (by omega) (by rw [l24 0 0 12 (by omega)]; rw [n14] at n18; omega) h24 ⟨?_, fun v hv => ?_, ?_, ?_, ?_, ?_⟩
      · unfold ROM at a1 ⊢
        rw [eW, f24 0 0 13 (by omega) (by omega) (by omega) (by omega), nbX_cong (X := X14) (Y := X24) _ (fun j _ => by rw [f24 12 j 12 (by omega) (by omega) (by omega) (by omega)])]
        exact a1
      · rw [eW] at hv
        by_cases y : v = w
        · intro z
          rw [y, f24 12 w 12 (by omega) (by omega) (by omega) (by omega)] at z
          have := (a2 w (by omega) z).2
          rw [st14] at this
          exact absurd this.symm (VD_n _ _ _)
        · exact bd1_keep h14 hkt (hkp (v + 1)) (by rw [g24]) (f24 12 v 8 (by omega) (by omega) (by omega) (by omega)) (f24 12 v 11 (by omega) (by omega) (by omega) (by omega)) (f24 12 v 12 (by omega) (by omega) (by omega) (by omega)) (a2 v hv)
      · exact vot_keep (fun v => ⟨f24 12 v 5 (by omega) (by omega) (by omega) (by omega), f24 12 v 6 (by omega) (by omega) (by omega) (by omega)⟩) (fun v m => ⟨f24 14 v m (by omega) (by omega) (by omega) (by omega), f24 15 v m (by omega) (by omega) (by omega) (by omega)⟩) a3
      · exact cpy_keep h14 a5 (fun i _ => hkp i) (fun m => f24 9 m 2 (by omega) (by omega) (by omega) (by omega)) (fun m j => f24 11 m j (by omega) (by omega) (by omega) (by omega)) (fun m j => by rw [g24]) (by omega) (fun v _ => by rw [g24]) a4
      · exact ref_keep (fun m j => by rw [g24]) a5
      · exact b18.set (l24 0 0 11 (by omega)) (l24 0 0 12 (by omega)) (fun a => l24 24 0 a (by omega)) (fun v hv => by rw [f24 12 v 11 (by omega) (by omega) (by omega) (by omega), f18 12 v 11 (by omega) (by omega)]) (by rw [s24]; decide)
theorem days_inv {X : SS} (hX : OKS X) (hi : INV X) (p : Int32) : ok (f_X6_days X p) (fun r => OKS r.1 ∧ INV r.1) := by
  have r12 : (0 : Int32) ≤ X.1 0 0 12 ∧ X.1 0 0 12 ≤ (8 : Int32) := hX.at1 0 0 12
  have hn8 : (X.1 0 0 12).toNatClampNeg ≤ 8 := cl_le r12.2 (by decide)
  have e12 := cl_nI r12.1
  unfold f_X6_days
  refine ok_ite (fun _ => ok_some ⟨hX, hi⟩) (fun _ => ok_ite (fun _ => ?_) (fun _ => ok_some ⟨hX, hi⟩))
  rw [lq_e, ← e12]
  exact dy_L31 p 1000 _ 0 X (by omega) (Nat.le_refl _) hX hi
