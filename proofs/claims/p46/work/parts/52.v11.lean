/-! challenges open and close -/
theorem c9_set {X Y : SS} {w : Nat} (h1 : ¬ X.1 12 w 11 = 99) (h2 : Y.1 12 w 11 = 99) (h : ∀ v, v ≠ w → (Y.1 12 v 11 = 99 ↔ X.1 12 v 11 = 99)) : ∀ W : Nat, c9 Y W = c9 X W + (if w < W then 1 else 0)
  | 0 => by rw [if_neg (by omega)]; rfl
  | W + 1 => by
    have ih := c9_set h1 h2 h W
    show c9 Y W + (if Y.1 12 W 11 = 99 then 1 else 0) = c9 X W + (if X.1 12 W 11 = 99 then 1 else 0) + (if w < W + 1 then 1 else 0)
    rw [ih]
    by_cases y : W = w
    · subst y
      rw [if_neg (by omega), if_pos h2, if_neg h1, if_pos (by omega)]
    · by_cases z : X.1 12 W 11 = 99
      · rw [if_pos z, if_pos ((h W y).mpr z)]
        split <;> split <;> omega
      · rw [if_neg z, if_neg (fun q => z ((h W y).mp q))]
        split <;> split <;> omega
/-- different open works are no more than the works in state 99 -/
theorem ph_le {X : SS} : ∀ (W n : Nat) (f : Nat → Nat), (∀ a, a < n → f a < W ∧ X.1 12 (f a) 11 = 99) → (∀ a b, a < n → b < n → f a = f b → a = b) → n ≤ c9 X W
  | 0, n, f, h1, _ => by
    rcases Nat.eq_zero_or_pos n with z | z
    · omega
    · exact absurd (h1 0 z).1 (by omega)
  | W + 1, n, f, h1, h2 => by
    show n ≤ c9 X W + (if X.1 12 W 11 = 99 then 1 else 0)
    by_cases q : ∃ a, a < n ∧ f a = W
    · obtain ⟨a, ha, e⟩ := q
      have h99 := (h1 a ha).2
      rw [e] at h99
      rw [if_pos h99]
      have h := ph_le (X := X) W (n - 1) (fun b => f (if b < a then b else b + 1)) (fun b hb => by
        show f (if b < a then b else b + 1) < W ∧ X.1 12 (f (if b < a then b else b + 1)) 11 = 99
        have hlt : (if b < a then b else b + 1) < n ∧ (if b < a then b else b + 1) ≠ a := by split <;> omega
        generalize (if b < a then b else b + 1) = c at hlt
        obtain ⟨g1, g2⟩ := h1 c hlt.1
        refine ⟨?_, g2⟩
        have : f c ≠ W := fun z => hlt.2 (h2 c a hlt.1 ha (z.trans e.symm))
        omega) (fun b c hb hc z => by
        have z2 : f (if b < a then b else b + 1) = f (if c < a then c else c + 1) := z
        have := h2 _ _ (by split <;> omega) (by split <;> omega) z2
        split at this <;> split at this <;> omega)
      omega
    · have h := ph_le (X := X) W n f (fun a ha => by
        obtain ⟨g1, g2⟩ := h1 a ha
        have : f a ≠ W := fun z => q ⟨a, ha, z⟩
        exact ⟨by omega, g2⟩) h2
      split <;> omega
theorem o24 {X : SS} (hX : OKS X) (a : Nat) : (0 : Int32) ≤ X.1 24 0 a ∧ X.1 24 0 a ≤ (39 : Int32) := hX.at1 24 0 a
theorem cha_has {X : SS} (hX : OKS X) (h : CHA X) {w : Nat} (hw : w < WK X) (h99 : X.1 12 w 11 = 99) : ∃ a, a < (X.1 0 0 12).toNatClampNeg ∧ X.1 24 0 a = nI w := by
  obtain ⟨c1, c2, c3⟩ := h
  have key : ¬ ∀ a, a < (X.1 0 0 12).toNatClampNeg → ¬ (X.1 24 0 a).toNatClampNeg = w := by
    intro hn
    have p := ph_le (X := X) (WK X) ((X.1 0 0 12).toNatClampNeg + 1) (fun a => if a < (X.1 0 0 12).toNatClampNeg then (X.1 24 0 a).toNatClampNeg else w) (fun a ha => by
      show (if a < (X.1 0 0 12).toNatClampNeg then (X.1 24 0 a).toNatClampNeg else w) < WK X ∧ X.1 12 (if a < (X.1 0 0 12).toNatClampNeg then (X.1 24 0 a).toNatClampNeg else w) 11 = 99
      by_cases y : a < (X.1 0 0 12).toNatClampNeg
      · rw [if_pos y]; exact c1 a y
      · rw [if_neg y]; exact ⟨hw, h99⟩) (fun a b ha hb z => by
      have z2 : (if a < (X.1 0 0 12).toNatClampNeg then (X.1 24 0 a).toNatClampNeg else w) = (if b < (X.1 0 0 12).toNatClampNeg then (X.1 24 0 b).toNatClampNeg else w) := z
      have eqc : ∀ a b : Nat, a < b → b < (X.1 0 0 12).toNatClampNeg → ¬ (X.1 24 0 a).toNatClampNeg = (X.1 24 0 b).toNatClampNeg := fun a b h1 h2 h3 => c2 a b h1 h2 (cl_inj (o24 hX a).1 (o24 hX b).1 h3)
      by_cases ya : a < (X.1 0 0 12).toNatClampNeg
      · rw [if_pos ya] at z2
        by_cases yb : b < (X.1 0 0 12).toNatClampNeg
        · rw [if_pos yb] at z2
          rcases Nat.lt_trichotomy a b with q | q | q
          · exact absurd z2 (eqc a b q yb)
          · exact q
          · exact absurd z2.symm (eqc b a q ya)
        · rw [if_neg yb] at z2
          exact absurd z2 (hn a ya)
      · rw [if_neg ya] at z2
        by_cases yb : b < (X.1 0 0 12).toNatClampNeg
        · rw [if_pos yb] at z2
          exact absurd z2.symm (hn b yb)
        · omega)
    change c9 X (WK X) = _ at c3
    omega
  by_cases q : ∃ a, a < (X.1 0 0 12).toNatClampNeg ∧ (X.1 24 0 a).toNatClampNeg = w
  · obtain ⟨a, ha, e⟩ := q
    exact ⟨a, ha, by rw [← e, cl_nI (o24 hX a).1]⟩
  · exact absurd (fun a ha z => q ⟨a, ha, z⟩) key
/-- the open list without w, whose state is still 99 -/
def CHB (X : SS) (w : Nat) : Prop := (∀ a : Nat, a < (X.1 0 0 12).toNatClampNeg → (X.1 24 0 a).toNatClampNeg < WK X ∧ X.1 12 (X.1 24 0 a).toNatClampNeg 11 = 99 ∧ ¬ (X.1 24 0 a).toNatClampNeg = w) ∧ (∀ a b : Nat, a < b → b < (X.1 0 0 12).toNatClampNeg → ¬ X.1 24 0 a = X.1 24 0 b) ∧ c9 X (WK X) = (X.1 0 0 12).toNatClampNeg + 1 ∧ w < WK X ∧ X.1 12 w 11 = 99
theorem CHB.set {X Y : SS} {w : Nat} (h : CHB X w) (h11 : Y.1 0 0 11 = X.1 0 0 11) (h12 : Y.1 0 0 12 = X.1 0 0 12) (h24 : ∀ a : Nat, Y.1 24 0 a = X.1 24 0 a) (hs : ∀ v : Nat, v ≠ w → Y.1 12 v 11 = X.1 12 v 11) (hw : ¬ Y.1 12 w 11 = 99) : CHA Y := by
  obtain ⟨c1, c2, c3, c4, c5⟩ := h
  have eW : WK Y = WK X := by
    unfold WK
    rw [h11]
  refine ⟨fun a ha => ?_, fun a b h1 h2 => ?_, ?_⟩
  · rw [h12] at ha
    obtain ⟨d1, d2, d3⟩ := c1 a ha
    rw [h24]
    exact ⟨by show _ < WK Y; rw [eW]; exact d1, by rw [hs _ d3]; exact d2⟩
  · rw [h12] at h2
    rw [h24, h24]
    exact c2 a b h1 h2
  · show c9 Y (WK Y) = _
    have := c9_set (X := Y) (Y := X) (w := w) hw c5 (fun v hv => by rw [hs v hv]) (WK X)
    rw [if_pos c4] at this
    rw [eW, h12]
    omega
def BQ (a0 a : Nat) : Nat := if a ≤ a0 then a else a - 1
theorem BQ_le (a0 a : Nat) : BQ a0 a ≤ a := by
  unfold BQ
  split <;> omega
def CCF (X : SS) (a0 b : Nat) (Y : SS) : Prop := OKS Y ∧ (∀ k i p : Nat, ¬ (k = 24 ∧ i = 0) → Y.1 k i p = X.1 k i p) ∧ Y.2 = X.2 ∧ ∀ j : Nat, Y.1 24 0 j = X.1 24 0 (SH a0 b j)
theorem cc_L4 {X : SS} {w a0 nn : Nat} (hn8 : nn ≤ 8) (e12 : X.1 0 0 12 = nI nn) (ha : a0 < nn) (h0 : X.1 24 0 a0 = nI w) (hu : ∀ a, a < nn → a ≠ a0 → ¬ X.1 24 0 a = nI w) {P : SS × Unit → Prop} : ∀ (n a : Nat) (Y : SS) (k : Int32 → SS → Option (SS × Unit)), 9 ≤ a + n → a ≤ nn → CCF X a0 (BQ a0 a) Y → (∀ Z : SS, CCF X a0 (nn - 1) Z → ok (k (nI (nn - 1)) Z) P) → ok (f_X6_closeChallenge_L4 (nI w) n (nI a) (nI (BQ a0 a)) Y k) P := by
  intro n
  induction n with
  | zero => intro a Y k h1 h2; omega
  | succ n ih =>
    intro a Y k h1 h2 hY hk
    obtain ⟨y1, y2, y3, y4⟩ := hY
    rw [f_X6_closeChallenge_L4]
    show ok (if Y.1 0 0 12 ≤ nI a then k (nI (BQ a0 a)) Y else _) P
    rw [y2 0 0 12 (by omega), e12]
    have hB := BQ_le a0 a
    refine ok_ite (fun c => ?_) (fun c => ?_)
    · rw [nI_leI (by omega) (by omega)] at c
      have e : BQ a0 a = nn - 1 := by
        unfold BQ
        rw [if_neg (by omega)]
        omega
      rw [e] at y4 ⊢
      exact hk Y ⟨y1, y2, y3, y4⟩
    · rw [nI_leI (by omega) (by omega)] at c
      have ga : vp_in (nI a) 8 := nI_in (by omega) (by decide)
      have gb : vp_in (nI (BQ a0 a)) 8 := nI_in (by omega) (by decide)
      have eya : Y.1 24 0 a = X.1 24 0 a := by
        rw [y4]
        unfold SH
        rw [if_neg (by omega)]
      refine ok_gd ga (fun _ => ?_)
      rw [nI_clamp (by omega), nI_clamp (by omega), nI_1, eya]
      refine ok_ite (fun z => ?_) (fun z => ?_)
      · have e : a = a0 := Classical.byContradiction fun q => hu a (by omega) q z
        have e2 : BQ a0 (a + 1) = BQ a0 a := by
          unfold BQ
          rw [if_neg (by omega), if_pos (by omega)]
          omega
        have h := ih (a + 1) Y k (by omega) (by omega) ⟨y1, y2, y3, by rw [e2]; exact y4⟩ hk
        rw [e2] at h
        exact h
      · have hne : a ≠ a0 := fun q => z (by rw [q]; exact h0)
        refine ok_gd ga (fun _ => ok_gd gb (fun _ => ok_lq (fun X13 e13 => ?_)))
        have h13 : OKS X13 := by rw [e13]; have i : IV TT Y (u1 Y 24 0 (BQ a0 a) (X.1 24 0 a)) := IV.w1 y1 rfl trivial (by rw [← eya]; exact y1.at1 24 0 a); exact i.oks
        have e2 : BQ a0 (a + 1) = BQ a0 a + 1 := by
          unfold BQ
          split <;> split <;> omega
        have h := ih (a + 1) X13 k (by omega) (by omega) ⟨h13, fun k i p h => by rw [e13, up_e, if_neg (fun z => h ⟨z.1, z.2.1⟩)]; exact y2 k i p h, by rw [e13]; exact y3, fun j => ?_⟩ hk
        · rw [e2] at h
          rw [nI_1]
          exact h
        · rw [e13, up_e, e2, y4]
          have hb : (a ≤ a0 ∧ BQ a0 a = a) ∨ (a0 < a ∧ BQ a0 a = a - 1) := by
            unfold BQ
            split <;> omega
          generalize BQ a0 a = b at hb
          by_cases y : j = b
          · rw [if_pos ⟨rfl, rfl, y⟩, y, show SH a0 (b + 1) b = a by unfold SH; split <;> omega]
          · rw [if_neg (fun q => y q.2.2), show SH a0 (b + 1) j = SH a0 b j by unfold SH; split <;> split <;> omega]
def CLO (X : SS) (w : Nat) (Y : SS) : Prop := (∀ k i p : Nat, ¬ (k = 24 ∧ i = 0) → ¬ (k = 0 ∧ i = 0 ∧ p = 12) → Y.1 k i p = X.1 k i p) ∧ Y.2 = X.2 ∧ CHB Y w ∧ (Y.1 0 0 12).toNatClampNeg + 1 = (X.1 0 0 12).toNatClampNeg
theorem cc_eq {X : SS} (hX : OKS X) (h : CHA X) {w : Nat} (hw : w < WK X) (h99 : X.1 12 w 11 = 99) : ok (f_X6_closeChallenge X (nI w)) (fun r => OKS r.1 ∧ CLO X w r.1) := by
  have r12 : (0 : Int32) ≤ X.1 0 0 12 ∧ X.1 0 0 12 ≤ (8 : Int32) := hX.at1 0 0 12
  have e12 := cl_nI r12.1
  have hn8 : (X.1 0 0 12).toNatClampNeg ≤ 8 := cl_le r12.2 (by decide)
  have hW := WK_40 hX
  obtain ⟨a0, ha, h0⟩ := cha_has hX h hw h99
  obtain ⟨c1, c2, c3⟩ := h
  change ∀ a : Nat, a < (X.1 0 0 12).toNatClampNeg → (X.1 24 0 a).toNatClampNeg < WK X ∧ _ at c1
  change c9 X (WK X) = _ at c3
  generalize hnn : (X.1 0 0 12).toNatClampNeg = nn at *
  have dist : ∀ a b, a < nn → b < nn → X.1 24 0 a = X.1 24 0 b → a = b := fun a b h1 h2 h3 => by
    rcases Nat.lt_trichotomy a b with q | q | q
    · exact absurd h3 (c2 a b q h2)
    · exact q
    · exact absurd h3.symm (c2 b a q h1)
  unfold f_X6_closeChallenge
  have hB0 : BQ a0 0 = 0 := by
    unfold BQ
    rw [if_pos (by omega)]
  have hl := cc_L4 (X := X) (w := w) (a0 := a0) hn8 e12.symm ha h0 (fun a h1 h2 h3 => h2 (dist a a0 h1 ha (h3.trans h0.symm))) (P := fun r => OKS r.1 ∧ CLO X w r.1) 1000 0 X (fun v2 X3 => lq (u1 X3 0 0 12 v2) (fun X7 => some (X7, ()))) (by omega) (Nat.zero_le _) ⟨hX, fun _ _ _ _ => rfl, rfl, fun j => by
    rw [hB0]
    unfold SH
    rw [if_neg (by omega)]⟩ (fun Z hZ => ?_)
  · rw [hB0] at hl
    exact hl
  · obtain ⟨z1, z2, z3, z4⟩ := hZ
    refine ok_lq (fun X7 e7 => ok_some ?_)
    show OKS X7 ∧ CLO X w X7
    have b1 : (0 : Int32) ≤ nI (nn - 1) ∧ nI (nn - 1) ≤ (8 : Int32) := ⟨nI_pos' (by omega), (nI_leI (by omega) (by decide : (8 : Nat) < 2 ^ 31)).mpr (by omega)⟩
    have h7 : OKS X7 := by rw [e7]; have i : IV TT Z (u1 Z 0 0 12 (nI (nn - 1))) := IV.w1 z1 rfl trivial b1; exact i.oks
    have f7 : ∀ k i p : Nat, ¬ (k = 24 ∧ i = 0) → ¬ (k = 0 ∧ i = 0 ∧ p = 12) → X7.1 k i p = X.1 k i p := fun k i p g1 g2 => by rw [e7, up_e, if_neg g2, z2 k i p g1]
    have n7 : (X7.1 0 0 12).toNatClampNeg = nn - 1 := by rw [e7, up_s, nI_clamp (by omega)]
    have l7 : ∀ j, X7.1 24 0 j = X.1 24 0 (SH a0 (nn - 1) j) := fun j => by rw [e7, up_k (by decide), z4]
    have eW : WK X7 = WK X := by
      unfold WK
      rw [f7 0 0 11 (by omega) (by omega)]
    have sh : ∀ j, j < nn - 1 → SH a0 (nn - 1) j < nn ∧ SH a0 (nn - 1) j ≠ a0 := fun j hj => by
      unfold SH
      split <;> omega
    refine ⟨h7, f7, by rw [e7]; exact z3, ⟨fun a ha2 => ?_, fun a b h1 h2 h3 => ?_, ?_, by rw [eW]; exact hw, by rw [f7 12 w 11 (by omega) (by omega)]; exact h99⟩, by rw [n7]; omega⟩
    · rw [n7] at ha2
      obtain ⟨s1, s2⟩ := sh a ha2
      obtain ⟨d1, d2⟩ := c1 _ s1
      rw [l7, eW, f7 12 _ 11 (by omega) (by omega)]
      refine ⟨d1, d2, fun z => s2 (dist _ a0 s1 ha ?_)⟩
      rw [h0, ← z, cl_nI (o24 hX _).1]
    · rw [n7] at h2
      rw [l7, l7] at h3
      have s1 := sh a (by omega)
      have s2 := sh b h2
      have := dist _ _ s1.1 s2.1 h3
      unfold SH at this
      split at this <;> split at this <;> omega
    · rw [eW, n7, c9_cong (X := X) (Y := X7) (WK X) (fun j _ => by rw [f7 12 j 11 (by omega) (by omega)]), c3]
      omega
