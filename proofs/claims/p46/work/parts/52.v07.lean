theorem in1_keep {X Y : SS} (hX : OKS X) (h : ∀ k i p : Nat, IC k i p → ¬ (k = 0 ∧ i = 0 ∧ p = 13) → Y.1 k i p = X.1 k i p) (hs : ∀ w : Nat, Y.2.1 12 w 10 = X.2.1 12 w 10) (hr : ∀ m j : Nat, Y.2.2.1 10 m j = X.2.2.1 10 m j) (hi : IN1 X) : IN1 Y := by
  have q : ∀ k i p : Nat, (IC k i p ∧ ¬ (k = 0 ∧ i = 0 ∧ p = 13)) → Y.1 k i p = X.1 k i p := fun k i p z => h k i p z.1 z.2
  have hkt : KT X Y := ⟨fun t _ => ⟨q 4 t 2 (by first | (simp [IC]; done) | (simp [IC]; omega)), q 4 t 3 (by first | (simp [IC]; done) | (simp [IC]; omega)), funext fun a => q 5 t a (by first | (simp [IC]; done) | (simp [IC]; omega)), funext fun a => q 6 t a (by first | (simp [IC]; done) | (simp [IC]; omega))⟩, fun k => q 7 k 1 (by first | (simp [IC]; done) | (simp [IC]; omega))⟩
  have hkp : ∀ i : Nat, 1 ≤ i → KP X Y i := fun i h => ⟨q 1 i 2 (by first | (simp [IC]; done) | (simp [IC]; omega)), funext fun a => q 2 i a (by first | (simp [IC]; done) | (simp [IC]; omega)), funext fun a => q 3 i a (by first | (simp [IC]; done) | (simp [IC]; omega))⟩
  have eW : WK Y = WK X := by
    unfold WK
    rw [q 0 0 11 (by first | (simp [IC]; done) | (simp [IC]; omega))]
  have h12 : ∀ w p : Nat, p = 5 ∨ p = 6 ∨ p = 8 ∨ p = 11 ∨ p = 12 → Y.1 12 w p = X.1 12 w p := fun w p z => q 12 w p (by first | (simp [IC]; done) | (simp [IC]; omega))
  refine ⟨fun v hv => ?_, ?_, ?_, ?_, ?_⟩
  · rw [eW] at hv
    exact bd1_keep hX hkt (hkp (v + 1) (by omega)) (hs v) (h12 v 8 (by omega)) (h12 v 11 (by omega)) (h12 v 12 (by omega)) (hi.1 v hv)
  · exact vot_keep (fun v => ⟨h12 v 5 (by omega), h12 v 6 (by omega)⟩) (fun v m => ⟨q 14 v m (by first | (simp [IC]; done) | (simp [IC]; omega)), q 15 v m (by first | (simp [IC]; done) | (simp [IC]; omega))⟩) hi.2.1
  · exact cpy_keep hX hi.2.2.2.1 (fun i h => hkp i (by omega)) (fun m => q 9 m 2 (by first | (simp [IC]; done) | (simp [IC]; omega))) (fun m j => q 11 m j (by first | (simp [IC]; done) | (simp [IC]; omega))) hr (by omega) (fun v _ => hs v) hi.2.2.1
  · exact ref_keep hr hi.2.2.2.1
  · exact cha_keep (q 0 0 11 (by first | (simp [IC]; done) | (simp [IC]; omega))) (q 0 0 12 (by first | (simp [IC]; done) | (simp [IC]; omega))) (fun a => q 24 0 a (by first | (simp [IC]; done) | (simp [IC]; omega))) (fun v => by rw [h12 v 11 (by omega)]) hi.2.2.2.2
theorem cha_grow {X Y : SS} (hW : WK Y = WK X + 1) (h12 : Y.1 0 0 12 = X.1 0 0 12) (h24 : ∀ a : Nat, Y.1 24 0 a = X.1 24 0 a) (hs : ∀ w : Nat, w < WK X → Y.1 12 w 11 = X.1 12 w 11) (hn : ¬ Y.1 12 (WK X) 11 = 99) (hc : CHA X) : CHA Y := by
  obtain ⟨c1, c2, c3⟩ := hc
  change ∀ a : Nat, a < (X.1 0 0 12).toNatClampNeg → (X.1 24 0 a).toNatClampNeg < WK X ∧ _ at c1
  change c9 X (WK X) = _ at c3
  refine ⟨fun a ha => ?_, fun a b ha hb => ?_, ?_⟩
  · rw [h12] at ha
    rw [h24]
    obtain ⟨d1, d2⟩ := c1 a ha
    refine ⟨?_, by rw [hs _ d1]; exact d2⟩
    show _ < WK Y
    omega
  · rw [h12] at hb
    rw [h24, h24]
    exact c2 a b ha hb
  · show c9 Y (WK Y) = _
    rw [hW, h12]
    show c9 Y (WK X) + (if Y.1 12 (WK X) 11 = 99 then 1 else 0) = _
    rw [if_neg hn, c9_cong (X := X) (Y := Y) (WK X) (fun j hj => by rw [hs j hj])]
    exact c3
/-! taking a program -/
theorem nar_ch {x : Int32} (h : (0 : Int32) ≤ x ∧ x ≤ (65535 : Int32)) : vp_nar .char x = x := by
  have h1 := (okc_of h.1 h.2).1
  unfold vp_nar
  rw [h1]
theorem tp_L10 {X : SS} (hX : OKS X) {i j : Nat} (hne : j ≠ i) {P : SS × Unit → Prop} : ∀ (n v : Nat) (Y : SS) (k2 : SS → Option (SS × Unit)), 25 ≤ v + n → v ≤ 24 → Y.1 1 i 2 = X.1 1 j 2 → OKS Y → (∀ a b c : Nat, ¬ (b = i ∧ (a = 1 ∨ a = 2 ∨ a = 3)) → Y.1 a b c = X.1 a b c) → Y.2 = X.2 → (∀ a : Nat, a < v → Y.1 2 i a = X.1 2 j a ∧ Y.1 3 i a = X.1 3 j a) →
    (∀ Z : SS, OKS Z → Z.1 1 i 2 = X.1 1 j 2 → (∀ a b c : Nat, ¬ (b = i ∧ (a = 1 ∨ a = 2 ∨ a = 3)) → Z.1 a b c = X.1 a b c) → Z.2 = X.2 → (∀ a : Nat, a < (X.1 1 j 2).toNatClampNeg → Z.1 2 i a = X.1 2 j a ∧ Z.1 3 i a = X.1 3 j a) → ok (k2 Z) P) → ok (f_X3_take_L10 i j n (nI v) Y k2) P := by
  have rl : (0 : Int32) ≤ X.1 1 j 2 ∧ X.1 1 j 2 ≤ (24 : Int32) := hX.at1 1 j 2
  intro n
  induction n with
  | zero => intro v Y k2 h1 h2; omega
  | succ n ih =>
    intro v Y k2 h1 h2 hl hY hf hg hb hk
    rw [f_X3_take_L10]
    show ok (if Y.1 1 i 2 ≤ nI v then k2 Y else _) P
    rw [hl]
    refine ok_ite (fun c => ?_) (fun c => ?_)
    · refine hk Y hY hl hf hg (fun a ha => hb a ?_)
      have := cl_mono2 rl.1 c
      rw [nI_clamp (by omega)] at this
      omega
    · have hv : v < 24 := by
        have : nI v < nI 24 := show nI v < (24 : Int32) by grind
        exact (nI_ltI (by omega) (by decide)).mp this
      have hv24 : vp_in (nI v) 24 := nI_in hv (by decide)
      refine ok_gd hv24 (fun _ => ok_gd hv24 (fun _ => ok_lq (fun X9 e9 => ok_gd hv24 (fun _ => ok_gd hv24 (fun _ => ok_lq (fun X12 e12 => ?_))))))
      rw [nI_clamp (by omega)] at e9 e12
      have rc : (0 : Int32) ≤ X.1 2 j v ∧ X.1 2 j v ≤ (65535 : Int32) := hX.at1 2 j v
      rw [hf 2 j v (by omega), nar_ch rc] at e9
      have h9 : OKS X9 := by rw [e9]; have i : IV TT Y (u1 Y 2 i v (X.1 2 j v)) := IV.w1 hY rfl trivial rc; exact i.oks
      have h12 : OKS X12 := by rw [e12]; have i : IV TT X9 (u1 X9 3 i v (X9.1 3 j v)) := IV.w1f h9 rfl trivial rfl; exact i.oks
      have e93 : X9.1 3 j v = X.1 3 j v := by rw [e9, up_k (by decide)]; exact hf 3 j v (by omega)
      rw [e93] at e12
      rw [nI_1]
      refine ih (v + 1) X12 k2 (by omega) (by omega) (by rw [e12, up_k (by decide), e9, up_k (by decide), hl]) h12 (fun a b c z => ?_) (by rw [e12, e9]; exact hg) (fun a ha => ?_) hk
      · rw [e12, up_e, if_neg (fun y => z ⟨y.2.1, by omega⟩), e9, up_e, if_neg (fun y => z ⟨y.2.1, by omega⟩)]
        exact hf a b c z
      · by_cases y : a = v
        · rw [y, e12, up_k (by decide), up_s, e9, up_s]
          exact ⟨rfl, rfl⟩
        · rw [e12, up_k (by decide), up_p y, e9, up_p y, up_k (by decide)]
          exact hb a (by omega)
theorem tp_eq {X : SS} (hX : OKS X) {i j : Nat} (hne : j ≠ i) : ok (f_X3_take X i j) (fun r => OKS r.1 ∧ r.1.1 1 i 2 = X.1 1 j 2 ∧ (∀ a b c : Nat, ¬ (b = i ∧ (a = 1 ∨ a = 2 ∨ a = 3)) → r.1.1 a b c = X.1 a b c) ∧ r.1.2 = X.2 ∧ (∀ a : Nat, a < (X.1 1 j 2).toNatClampNeg → r.1.1 2 i a = X.1 2 j a ∧ r.1.1 3 i a = X.1 3 j a)) := by
  have rl : (0 : Int32) ≤ X.1 1 j 2 ∧ X.1 1 j 2 ≤ (24 : Int32) := hX.at1 1 j 2
  unfold f_X3_take
  rw [lq_e]
  have i1 : IV TT X (u1 X 1 i 2 (X.1 1 j 2)) := IV.w1 hX rfl trivial rl
  exact tp_L10 hX hne 1000 0 _ _ (by omega) (by omega) up_s i1.oks (fun a b c z => by rw [up_e, if_neg (fun y => z ⟨y.2.1, by omega⟩)]) rfl (fun a ha => absurd ha (by omega)) (fun Z g1 g2 g3 g4 g5 => ok_some ⟨g1, g2, g3, g4, g5⟩)
/-- a taken program is the same program -/
theorem tp_prg {X Y : SS} {i j w : Nat} (h1 : Y.1 1 i 2 = X.1 1 j 2) (h2 : ∀ a : Nat, a < (X.1 1 j 2).toNatClampNeg → Y.1 2 i a = X.1 2 j a ∧ Y.1 3 i a = X.1 3 j a) : (WH (X.1 2 j) (X.1 1 j 2).toNatClampNeg → WH (Y.1 2 i) (Y.1 1 i 2).toNatClampNeg) ∧ SM (Y.1 2 i) (Y.1 3 i) (Y.1 1 i 2).toNatClampNeg = SM (X.1 2 j) (X.1 3 j) (X.1 1 j 2).toNatClampNeg := by
  rw [h1]
  exact ⟨fun h => WH_cong (fun a ha => (h2 a ha).1.symm) h, SM_cong h2⟩
/-! drop, capacity -/
theorem IN1.rom {X : SS} (h : IN1 X) (hr : ROM X) : INV X := ⟨hr, h⟩
theorem drop_inv {X : SS} (hX : OKS X) (hi : INV X) (p : Int32) : ok (f_X6_drop X p) (fun r => OKS r.1 ∧ INV r.1) := by
  unfold f_X6_drop
  by_cases a : p < 0 ∨ X.1 0 0 11 ≤ p
  · rw [workAt_no a, e0_inr]
    exact ok_some ⟨hX, hi⟩
  · rw [workAt_in hX a, e0_inl]
    refine ok_ite (fun _ => ok_some ⟨hX, hi⟩) (fun z => ?_)
    have hw : p.toNatClampNeg < WK X := cl_mono (by grind) (by grind)
    refine ok_b1 (db_in hX hi.2 hw z) (fun X9 v8 y => ?_)
    obtain ⟨y1, y2, y3, y4, y5⟩ := y
    simp only at y1 y2 y3 y4 y5
    refine ok_b0e (bcX y1) (ok_some ⟨y1, IN1.rom y2 ?_⟩)
    have := hi.1
    unfold ROM at this
    show nbX X9 (WK X9) ≤ (X9.1 0 0 13).toNatClampNeg
    rw [y3, y5]
    omega
theorem capacity_inv {X : SS} (hX : OKS X) (hi : INV X) (p : Int32) : ok (f_X6_capacity X p) (fun r => OKS r.1 ∧ INV r.1) := by
  unfold f_X6_capacity
  refine ok_ite (fun _ => ok_some ⟨hX, hi⟩) (fun z => ?_)
  refine ok_ite (fun y => ?_) (fun _ => ok_some ⟨hX, hi⟩)
  rw [lq_e]
  have i1 : IV TT X (u1 X 0 0 13 p) := IV.w1 hX rfl trivial (show (0 : Int32) ≤ p ∧ p ≤ (40 : Int32) from ⟨by grind, y⟩)
  have h1 : IN1 (u1 X 0 0 13 p) := in1_keep hX (fun k i q _ h => by rw [up_e, if_neg h]) (fun _ => rfl) (fun _ _ => rfl) hi.2
  exact ok_b1 (mk_eq i1.oks h1) (fun X5 v4 q => ok_some ⟨q.1, q.2.1⟩)
/-! submit -/
theorem submit_inv {X : SS} (hX : OKS X) (hi : INV X) (p q : Int32) : ok (f_X6_submit X p q) (fun r => OKS r.1 ∧ INV r.1) := by
  have r10 : (0 : Int32) ≤ X.1 0 0 10 ∧ X.1 0 0 10 ≤ (10 : Int32) := hX.at1 0 0 10
  have r9 : (0 : Int32) ≤ X.1 0 0 9 ∧ X.1 0 0 9 ≤ (8 : Int32) := hX.at1 0 0 9
  have r11 : (0 : Int32) ≤ X.1 0 0 11 ∧ X.1 0 0 11 ≤ (40 : Int32) := hX.at1 0 0 11
  unfold f_X6_submit
  by_cases a : p < 0 ∨ X.1 0 0 10 ≤ p
  · rw [memberAt_no a, e0_inr]
    exact ok_some ⟨hX, hi⟩
  rw [memberAt_in hX a, e0_inl]
  by_cases c : q < 0 ∨ X.1 0 0 9 ≤ q
  · rw [kataAt_no c, e0_inr]
    exact ok_some ⟨hX, hi⟩
  rw [kataAt_in hX c, e0_inl]
  obtain ⟨b, w1, w2, w3⟩ := wX_eq hX 0
  refine ok_b0e w1 ?_
  refine ok_ite (fun _ => ok_some ⟨hX, hi⟩) (fun b1 => ?_)
  have hw := w3.mp (w2.elim (fun z => absurd z b1) id)
  refine ok_ite (fun _ => ok_some ⟨hX, hi⟩) (fun _ => ?_)
  refine ok_ite (fun e => ?_) (fun _ => ok_some ⟨hX, hi⟩)
  refine ok_b1 (pg_eq hX hw) (fun X19 v18 y => ?_)
  obtain ⟨y1, y2, y3⟩ := y
  simp only at y1 y2 y3
  refine ok_ite (fun _ => ok_some ⟨y1, y2.ki.inv hX hi⟩) (fun z => ?_)
  have hall : ALLp X 0 q.toNatClampNeg := by
    rcases y3 with ⟨-, g⟩ | ⟨g, -⟩
    · exact g
    · exact absurd g z
  have e11 : X19.1 0 0 11 = X.1 0 0 11 := y2.1 0 0 11 (by omega)
  rw [lq_e, e11]
  refine ok_lq (fun X23 e23 => ?_)
  refine ok_gd (vp_of (by decide) r11.1 (show X.1 0 0 11 < (40 : Int32) by grind)) (fun _ => ?_)
  have h23 : OKS X23 := by rw [e23]; have i : IV TT X19 (u1 X19 0 0 11 (X.1 0 0 11 + 1)) := IV.w1 y1 rfl trivial (show (0 : Int32) ≤ X.1 0 0 11 + 1 ∧ X.1 0 0 11 + 1 ≤ (40 : Int32) from ⟨by grind, by grind⟩); exact i.oks
  have f23 : ∀ k i p : Nat, k < 16 ∨ 20 < k → ¬ (k = 0 ∧ i = 0 ∧ p = 11) → X23.1 k i p = X.1 k i p := fun k i p g1 g2 => by rw [e23, up_e, if_neg g2, y2.1 k i p g1]
  have s23 : ∀ k i p : Nat, X23.2.1 k i p = X.2.1 k i p := fun k i p => by rw [e23]; exact y2.2.1 k i p
  have t23 : ∀ k i p : Nat, X23.2.2.1 k i p = X.2.2.1 k i p := fun k i p => by rw [e23]; exact y2.2.2 k i p
  have w23 : X23.1 0 0 11 = X.1 0 0 11 + 1 := by rw [e23, up_s]
  -- begin
  have hbeg : ok (f_X5_begin X23 (X.1 0 0 11).toNatClampNeg p q 0) (fun r => OKS r.1 ∧ IN1 r.1) := by
    unfold f_X5_begin
    refine ok_lq (fun X1 e1 => ok_lq (fun X2 e2 => ok_lq (fun X3 e3 => ?_)))
    have h1 : OKS X1 := by rw [e1]; have i : IV TT X23 (u1 X23 12 (X.1 0 0 11).toNatClampNeg 7 p) := IV.w1 h23 rfl trivial (show (0 : Int32) ≤ p ∧ p ≤ (9 : Int32) from ⟨by grind, by grind⟩); exact i.oks
    have h2 : OKS X2 := by rw [e2]; have i : IV TT X1 (u1 X1 12 (X.1 0 0 11).toNatClampNeg 8 q) := IV.w1 h1 rfl trivial (show (0 : Int32) ≤ q ∧ q ≤ (7 : Int32) from ⟨by grind, by grind⟩); exact i.oks
    have h3 : OKS X3 := by rw [e3]; have i : IV TT X2 (u1 X2 12 (X.1 0 0 11).toNatClampNeg 9 (X2.1 1 0 2)) := IV.w1f h2 rfl trivial rfl; exact i.oks
    refine ok_b0e (sx_eq h3 0) ?_
    refine ok_lq (fun X6 e6 => ok_lq (fun X7 e7 => ?_))
    have h6 : OKS X6 := by rw [e6]; have i : IV TT X3 (u2 X3 12 (X.1 0 0 11).toNatClampNeg 10 (SM (X3.1 2 0) (X3.1 3 0) (X3.1 1 0 2).toNatClampNeg)) := IV.w2 h3 trivial; exact i.oks
    have h7 : OKS X7 := by rw [e7]; have i : IV TT X6 (u1 X6 12 (X.1 0 0 11).toNatClampNeg 11 115) := IV.w1 h6 rfl trivial (show (0 : Int32) ≤ (115 : Int32) ∧ (115 : Int32) ≤ (65535 : Int32) from ⟨by decide, by decide⟩); exact i.oks
    have hW : (X.1 0 0 11).toNatClampNeg < 40 := cl_lt (vp_of (by decide) r11.1 (show X.1 0 0 11 < (40 : Int32) by grind))
    have eWK : WK X = (X.1 0 0 11).toNatClampNeg := rfl
    generalize hw0 : (X.1 0 0 11).toNatClampNeg = w0 at *
    have f3 : ∀ k i p : Nat, ¬ (k = 12 ∧ i = w0 ∧ (p = 7 ∨ p = 8 ∨ p = 9)) → X3.1 k i p = X23.1 k i p := fun k i p g => by
      rw [e3, up_e, if_neg (fun z => g ⟨z.1, z.2.1, by omega⟩), e2, up_e, if_neg (fun z => g ⟨z.1, z.2.1, by omega⟩), e1, up_e, if_neg (fun z => g ⟨z.1, z.2.1, by omega⟩)]
    have f7 : ∀ k i p : Nat, ¬ (k = 12 ∧ i = w0 ∧ (p = 7 ∨ p = 8 ∨ p = 9 ∨ p = 11)) → X7.1 k i p = X23.1 k i p := fun k i p g => by
      rw [e7, up_e, if_neg (fun z => g ⟨z.1, z.2.1, by omega⟩), e6]
      exact f3 k i p (by omega)
    have c8 : X7.1 12 w0 8 = q := by
      rw [e7, up_p (by decide), e6]
      show X3.1 12 w0 8 = q
      rw [e3, up_p (by decide), e2, up_s]
    have c11 : X7.1 12 w0 11 = 115 := by rw [e7, up_s]
    have s3 : X3.2 = X23.2 := by rw [e3, e2, e1]; rfl
    have s7 : ∀ v : Nat, X7.2.1 12 v 10 = if v = w0 then SM (X.1 2 0) (X.1 3 0) (X.1 1 0 2).toNatClampNeg else X.2.1 12 v 10 := fun v => by
      rw [e7]
      show X6.2.1 12 v 10 = _
      rw [e6, f3 1 0 2 (by omega), show X3.1 2 0 = X.1 2 0 from funext fun a => by rw [f3 2 0 a (by omega), f23 2 0 a (by omega) (by omega)], show X3.1 3 0 = X.1 3 0 from funext fun a => by rw [f3 3 0 a (by omega), f23 3 0 a (by omega) (by omega)], f23 1 0 2 (by omega) (by omega)]
      by_cases y : v = w0
      · rw [if_pos y, y, u2_s]
      · rw [if_neg y, u2_i (fun z => y z.1), s3, s23]
    have t7 : ∀ k i p : Nat, X7.2.2.1 k i p = X.2.2.1 k i p := fun k i p => by
      rw [e7]
      show X6.2.2.1 k i p = _
      rw [e6]
      show X3.2.2.1 k i p = _
      rw [s3, t23]
    refine ok_b1 (P := fun r => OKS r.1 ∧ IN1 r.1) ?_ (fun X9 v8 g => ok_some g)
    unfold f_X5_regain
    refine ok_b1 (tp_eq h7 (i := w0 + 1) (j := 0) (by omega)) (fun Y v1 g => ?_)
    obtain ⟨g1, g2, g3, g4, g5⟩ := g
    simp only at g1 g2 g3 g4 g5
    refine ok_lq (fun Z eZ => ok_some ?_)
    show OKS Z ∧ IN1 Z
    have hZ : OKS Z := by rw [eZ]; have i : IV TT Y (u1 Y 12 w0 12 1) := IV.w1 g1 rfl trivial (show (0 : Int32) ≤ (1 : Int32) ∧ (1 : Int32) ≤ (1 : Int32) from ⟨by decide, by decide⟩); exact i.oks
    have fZ : ∀ k i p : Nat, k < 16 ∨ 20 < k → ¬ (k = 0 ∧ i = 0 ∧ p = 11) → ¬ (k = 12 ∧ i = w0 ∧ (p = 7 ∨ p = 8 ∨ p = 9 ∨ p = 11 ∨ p = 12)) → ¬ (i = w0 + 1 ∧ (k = 1 ∨ k = 2 ∨ k = 3)) → Z.1 k i p = X.1 k i p := fun k i p b1 b2 b3 b4 => by
      rw [eZ, up_e, if_neg (fun z => b3 ⟨z.1, z.2.1, by omega⟩), g3 k i p b4, f7 k i p (fun z => b3 ⟨z.1, z.2.1, by omega⟩), f23 k i p b1 b2]
    have sZ : ∀ v : Nat, Z.2.1 12 v 10 = if v = w0 then SM (X.1 2 0) (X.1 3 0) (X.1 1 0 2).toNatClampNeg else X.2.1 12 v 10 := fun v => by
      rw [eZ]
      show Y.2.1 12 v 10 = _
      rw [g4, s7]
    have tZ : ∀ k i p : Nat, Z.2.2.1 k i p = X.2.2.1 k i p := fun k i p => by
      rw [eZ]
      show Y.2.2.1 k i p = _
      rw [g4, t7]
    have x7 : ∀ k a : Nat, k = 1 ∨ k = 2 ∨ k = 3 → X7.1 k 0 a = X.1 k 0 a := fun k a h => by rw [f7 k 0 a (by omega), f23 k 0 a (by omega) (by omega)]
    have z1 : Z.1 1 (w0 + 1) 2 = X.1 1 0 2 := by rw [eZ, up_k (by decide), g2, x7 1 2 (by omega)]
    have z2 : ∀ a : Nat, a < (X.1 1 0 2).toNatClampNeg → Z.1 2 (w0 + 1) a = X.1 2 0 a ∧ Z.1 3 (w0 + 1) a = X.1 3 0 a := fun a ha => by
      have := g5 a (by rw [x7 1 2 (by omega)]; exact ha)
      rw [eZ, up_k (by decide), up_k (by decide), this.1, this.2, x7 2 a (by omega), x7 3 a (by omega)]
      exact ⟨rfl, rfl⟩
    have z8 : Z.1 12 w0 8 = q := by rw [eZ, up_p (by decide), g3 12 w0 8 (by omega), c8]
    have z11 : Z.1 12 w0 11 = 115 := by rw [eZ, up_p (by decide), g3 12 w0 11 (by omega), c11]
    have zW : WK Z = w0 + 1 := by
      unfold WK
      rw [eZ, up_k (by decide), g3 0 0 11 (by omega), f7 0 0 11 (by omega), w23, cl_succ r11.1 (by grind), hw0]
    have hkt : KT X Z := ⟨fun t _ => ⟨fZ 4 t 2 (by omega) (by omega) (by omega) (by omega), fZ 4 t 3 (by omega) (by omega) (by omega) (by omega), funext fun a => fZ 5 t a (by omega) (by omega) (by omega) (by omega), funext fun a => fZ 6 t a (by omega) (by omega) (by omega) (by omega)⟩, fun k => fZ 7 k 1 (by omega) (by omega) (by omega) (by omega)⟩
    have hkp : ∀ i : Nat, i ≠ w0 + 1 → KP X Z i := fun i h => ⟨fZ 1 i 2 (by omega) (by omega) (by omega) (by omega), funext fun a => fZ 2 i a (by omega) (by omega) (by omega) (by omega), funext fun a => fZ 3 i a (by omega) (by omega) (by omega) (by omega)⟩
    have hk8 : q.toNatClampNeg < 8 := cl_lt (vp_of (by decide) (by grind) (show q < (8 : Int32) by grind))
    refine ⟨hZ, fun v hv => ?_, ?_, ?_, ?_, ?_⟩
    · rw [zW] at hv
      by_cases y : v = w0
      · rw [y]
        intro _
        have tp := tp_prg (X := X) (Y := Z) (i := w0 + 1) (j := 0) (w := 0) z1 z2
        refine ⟨⟨tp.1 hw, ?_⟩, ?_⟩
        · rw [tp.2, sZ, if_pos rfl]
        · rw [z11, z8]
          unfold VD
          rw [if_pos]
          intro t ht_
          have r7 : (0 : Int32) ≤ X.1 7 q.toNatClampNeg 1 ∧ X.1 7 q.toNatClampNeg 1 ≤ (5 : Int32) := hX.at1 7 _ 1
          have h5 : (X.1 7 q.toNatClampNeg 1).toNatClampNeg ≤ 5 := cl_le r7.2 (by decide)
          rw [hkt.2] at ht_
          obtain ⟨b1, b2, b3, b4⟩ := hkt.1 (5 * q.toNatClampNeg + t) (by omega)
          rw [CD_cong (X := X) (Y := Z) (i := 0) (j := w0 + 1) hX hw z1 z2 b1 b2 (fun a _ => by rw [b3]) (fun a _ => by rw [b4])]
          exact hall t ht_
      · exact bd1_keep hX hkt (hkp (v + 1) (by omega)) (by rw [sZ, if_neg y]) (fZ 12 v 8 (by omega) (by omega) (by omega) (by omega)) (fZ 12 v 11 (by omega) (by omega) (by omega) (by omega)) (fZ 12 v 12 (by omega) (by omega) (by omega) (by omega)) (hi.2.1 v (by omega))
    · exact vot_keep (fun v => ⟨fZ 12 v 5 (by omega) (by omega) (by omega) (by omega), fZ 12 v 6 (by omega) (by omega) (by omega) (by omega)⟩) (fun v m => ⟨fZ 14 v m (by omega) (by omega) (by omega) (by omega), fZ 15 v m (by omega) (by omega) (by omega) (by omega)⟩) hi.2.2.1
    · exact cpy_keep hX hi.2.2.2.2.1 (fun i h => hkp i (by omega)) (fun m => fZ 9 m 2 (by omega) (by omega) (by omega) (by omega)) (fun m j => fZ 11 m j (by omega) (by omega) (by omega) (by omega)) (fun m j => tZ 10 m j) (by omega) (fun v hv => by rw [sZ, if_neg (by omega)]) hi.2.2.2.1
    · exact ref_keep (fun m j => tZ 10 m j) hi.2.2.2.2.1
    · exact cha_grow (by rw [zW, eWK]) (fZ 0 0 12 (by omega) (by omega) (by omega) (by omega)) (fun a => fZ 24 0 a (by omega) (by omega) (by omega) (by omega)) (fun v hv => fZ 12 v 11 (by omega) (by omega) (by omega) (by omega)) (by rw [eWK, z11]; decide) hi.2.2.2.2.2
  refine ok_b1 hbeg (fun X26 v25 g => ?_)
  exact ok_b1 (mk_eq g.1 g.2) (fun X29 v28 g2 => ok_some ⟨g2.1, g2.2.1⟩)
