/-! what a form gives: it is some, and so -/
def ok {α : Type} (t : Option α) (P : α → Prop) : Prop := ∃ r, t = some r ∧ P r
theorem ok_ite {α : Type} {q : Prop} [Decidable q] {a b : Option α} {P : α → Prop} (h1 : q → ok a P) (h2 : ¬ q → ok b P) : ok (if q then a else b) P := by
  split
  · exact h1 (by assumption)
  · exact h2 (by assumption)
theorem ok_gd {α : Type} {q : Prop} {t : Option α} {P : α → Prop} (h : q) (h2 : q → ok t P) : ok (gd q t) P := by
  rw [gd_t h]
  exact h2 h
theorem ok_lq {α β : Type} {a : α} {k : α → Option β} {P : β → Prop} (h : ∀ x, x = a → ok (k x) P) : ok (lq a k) P := h a rfl
theorem ok_some {α : Type} {r : α} {P : α → Prop} (h : P r) : ok (some r) P := ⟨r, rfl, h⟩
theorem ok_b0 {α β : Type} {t : Option α} {k : α → Option β} {P : α → Prop} {P2 : β → Prop} (h : ok t P) (h2 : ∀ v, P v → ok (k v) P2) : ok (b0 t k) P2 := by
  obtain ⟨r, e, hp⟩ := h
  subst e
  exact h2 r hp
theorem ok_b1 {α β : Type} {t : Option (SS × α)} {k : SS → α → Option β} {P : SS × α → Prop} {P2 : β → Prop} (h : ok t P) (h2 : ∀ X v, P (X, v) → ok (k X v) P2) : ok (b1 t k) P2 := by
  obtain ⟨r, e, hp⟩ := h
  subst e
  exact h2 r.1 r.2 hp
theorem ok_b2 {α β : Type} {t : Option (SS × SS × α)} {k : SS → SS → α → Option β} {P : SS × SS × α → Prop} {P2 : β → Prop} (h : ok t P) (h2 : ∀ X Y v, P (X, Y, v) → ok (k X Y v) P2) : ok (b2 t k) P2 := by
  obtain ⟨r, e, hp⟩ := h
  subst e
  exact h2 r.1 r.2.1 r.2.2 hp
theorem ok_e0 {α β : Type} {t : Option (α ⊕ String)} {k : α → Option β} {ke : String → Option β} {P : α ⊕ String → Prop} {P2 : β → Prop} (h : ok t P) (h2 : ∀ v, P (.inl v) → ok (k v) P2) (h3 : ∀ E, P (.inr E) → ok (ke E) P2) : ok (e0 t k ke) P2 := by
  obtain ⟨r, e, hp⟩ := h
  subst e
  cases r with
  | inl v => exact h2 v hp
  | inr E => exact h3 E hp
theorem ok_e1 {α β : Type} {t : Option (SS × (α ⊕ String))} {k : SS → α → Option β} {ke : SS → String → Option β} {P : SS × (α ⊕ String) → Prop} {P2 : β → Prop} (h : ok t P) (h2 : ∀ X v, P (X, .inl v) → ok (k X v) P2) (h3 : ∀ X E, P (X, .inr E) → ok (ke X E) P2) : ok (e1 t k ke) P2 := by
  obtain ⟨⟨X, o⟩, e, hp⟩ := h
  subst e
  cases o with
  | inl v => exact h2 X v hp
  | inr E => exact h3 X E hp
theorem ok_imp {α : Type} {t : Option α} {P Q : α → Prop} (h : ok t P) (h2 : ∀ r, P r → Q r) : ok t Q := by
  obtain ⟨r, e, hp⟩ := h
  exact ⟨r, e, h2 r hp⟩
theorem vp_of {x : Int32} {n : Nat} (hn : n < 2 ^ 31) (h0 : 0 ≤ x) (h : x < nI n) : vp_in x n := by
  rw [vp_in_iff]
  have h1 := Int32.le_iff_toInt_le.mp h0
  have h2 := Int32.lt_iff_toInt_lt.mp h
  rw [nI_toInt hn] at h2
  have h3 : (0 : Int32).toInt = 0 := rfl
  omega
theorem okc_of {x : Int32} (h0 : 0 ≤ x) (h : x < 65536) : okc x := by
  obtain ⟨j, hj, rfl⟩ := nI_of (x := x) (by grind)
  have h2 := Int32.lt_iff_toInt_lt.mp h
  rw [nI_toInt hj] at h2
  have h3 : (65536 : Int32).toInt = 65536 := rfl
  have hq : j < 65536 := by omega
  exact ⟨(pk_charN hq).1, (pk_charN hq).2⟩
/-- the least and the greatest of a cell -/
def rgX : Nat → Nat → Int32 × Int32
  | 0, 8 => (0, 0)
  | 0, 9 => (0, 8)
  | 0, 10 => (0, 10)
  | 0, 11 => (0, 40)
  | 1, 2 => (0, 24)
  | 2, _ => (0, 65535)
  | 4, 2 => (0, 4)
  | 4, 3 => (0, 6)
  | 7, 1 => (0, 5)
  | 9, 2 => (0, 3)
  | 12, 7 => (0, 9)
  | 12, 8 => (0, 7)
  | 16, 4 => (0, 12)
  | 16, 5 => (0, 6)
  | 16, 7 => (0, 4)
  | 16, 8 => (0, 24)
  | 19, _ => (0, 23)
  | 20, _ => (0, 23)
  | _, _ => (-2147483648, 2147483647)
def IX (X : SS) : Prop := (∀ k i p, (rgX k p).1 ≤ X.1 k i p ∧ X.1 k i p ≤ (rgX k p).2) ∧ ∀ i p, X.2.2.1 10 i p < 71
theorem IX.at1 {X : SS} (h : IX X) (k i p : Nat) : (rgX k p).1 ≤ X.1 k i p ∧ X.1 k i p ≤ (rgX k p).2 := h.1 k i p
theorem IX.at3 {X : SS} (h : IX X) (i p : Nat) : X.2.2.1 10 i p < 71 := h.2 i p
theorem IX.u1 {X : SS} (h : IX X) {k i p : Nat} {x : Int32} (hx : (rgX k p).1 ≤ x ∧ x ≤ (rgX k p).2) : IX (u1 X k i p x) := by
  refine ⟨fun k' i' p' => ?_, h.at3⟩
  show (rgX k' p').1 ≤ up3 X.1 k i p x k' i' p' ∧ up3 X.1 k i p x k' i' p' ≤ (rgX k' p').2
  unfold up3
  split
  · next q => obtain ⟨rfl, rfl, rfl⟩ := q; exact hx
  · exact h.at1 k' i' p'
theorem s_X1_pop {X : SS} (h : IX X) (i0 : Nat) : ok (f_X1_pop X i0) (fun r => IX r.1) := by
  unfold f_X1_pop
  have h1 := h.at1 16 i0 4
  simp only [rgX] at h1
  refine ok_ite (fun q => ok_lq fun X2 e => ok_some ?_) (fun q => ok_lq fun X2 e => ok_some ?_)
  · subst e; exact h.u1 (by simp only [rgX]; grind)
  · subst e; exact h.u1 (by simp only [rgX]; grind)
theorem s_X1_neededBy (p0 : Int32) : ok (f_X1_neededBy p0) (fun r => True) := by
  unfold f_X1_neededBy
  refine ok_ite (fun q => ?_) (fun q => ?_)
  · exact ok_some trivial
  · refine ok_ite (fun q => ?_) (fun q => ?_)
    · exact ok_some trivial
    · refine ok_ite (fun q => ?_) (fun q => ?_)
      · exact ok_some trivial
      · refine ok_ite (fun q => ?_) (fun q => ?_)
        · exact ok_some trivial
        · refine ok_ite (fun q => ?_) (fun q => ?_)
          · exact ok_some trivial
          · refine ok_ite (fun q => ?_) (fun q => ?_)
            · exact ok_some trivial
            · refine ok_ite (fun q => ?_) (fun q => ?_)
              · exact ok_some trivial
              · exact ok_some trivial
theorem s_X1_numberUnder (X : SS) (hX : IX X) (i0 : Nat) (p0 : Int32) : ok (f_X1_numberUnder X i0 p0) (fun r => True) := by
  unfold f_X1_numberUnder
  refine ok_lq (fun v1 e1 => ?_)
  refine ok_ite (fun q => ?_) (fun q => ?_)
  · have r2 := hX.at1 16 i0 4
    simp only [rgX] at r2
    exact ok_some trivial
  · refine ok_ite (fun q => ?_) (fun q => ?_)
    · have r3 := hX.at1 16 i0 4
      simp only [rgX] at r3
      exact ok_some trivial
    · refine ok_gd ?_ (fun g0 => ?_)
      · have r4 := hX.at1 16 i0 4
        simp only [rgX] at r4
        exact vp_of (by decide) (by grind) (show v1 < (12 : Int32) by grind)
      have r5 := hX.at1 17 i0 (v1).toNatClampNeg
      simp only [rgX] at r5
      have r6 := hX.at1 16 i0 4
      simp only [rgX] at r6
      exact ok_some trivial
theorem s_X1_errorOf_J104 (p0 : Int32) (X : SS) (hX : IX X) (i0 : Nat) : ok (f_X1_errorOf_J104 p0 X i0) (fun r => True) := by
  unfold f_X1_errorOf_J104
  refine ok_ite (fun q => ?_) (fun q => ?_)
  · refine ok_ite (fun q => ?_) (fun q => ?_)
    · have r1 := hX.at1 16 i0 5
      simp only [rgX] at r1
      exact ok_some trivial
    · have r2 := hX.at1 16 i0 5
      simp only [rgX] at r2
      exact ok_some trivial
  · exact ok_some trivial
theorem s_X1_errorOf_J87 (p0 : Int32) (X : SS) (hX : IX X) (i0 : Nat) (v7 : Int32) : ok (f_X1_errorOf_J87 p0 X i0 v7) (fun r => True) := by
  unfold f_X1_errorOf_J87
  refine ok_ite (fun q => ?_) (fun q => ?_)
  · exact s_X1_errorOf_J104 p0 X hX i0
  · refine ok_ite (fun q => ?_) (fun q => ?_)
    · have r1 := hX.at1 16 i0 4
      simp only [rgX] at r1
      exact s_X1_errorOf_J104 p0 X hX i0
    · have r2 := hX.at1 16 i0 4
      simp only [rgX] at r2
      exact ok_some trivial
theorem s_X1_replace_J19 (X : SS) (hX : IX X) (i0 : Nat) (p1 : Int32) (v1 : Int32) (hv1 : (0 : Int32) ≤ v1 ∧ v1 ≤ (12 : Int32)) : ok (f_X1_replace_J19 X i0 p1 v1) (fun r => IX r.1 ∧ True) := by
  unfold f_X1_replace_J19
  refine ok_lq (fun X3 e1 => ?_)
  have hX3 : IX X3 := by
    rw [e1]
    refine hX.u1 ?_
    simp only [rgX]
    grind
  refine ok_ite (fun q => ?_) (fun q => ?_)
  · have r2 : X3.1 16 i0 4 = v1 := by simp [e1, u1, up3]
    have r3 := hX3.at1 16 i0 4
    simp only [rgX] at r3
    exact ok_some ⟨hX3, trivial⟩
  · refine ok_gd ?_ (fun g0 => ?_)
    · have r4 : X3.1 16 i0 4 = v1 := by simp [e1, u1, up3]
      have r5 := hX3.at1 16 i0 4
      simp only [rgX] at r5
      exact vp_of (by decide) (by grind) (show (X3.1 16 i0 4) < (12 : Int32) by grind)
    refine ok_lq (fun X6 e6 => ?_)
    have hX6 : IX X6 := by
      rw [e6]
      refine hX3.u1 ?_
      have r7 : X3.1 16 i0 4 = v1 := by simp [e1, u1, up3]
      have r8 := hX3.at1 16 i0 4
      simp only [rgX] at r8
      simp only [rgX]
      grind
    refine ok_lq (fun X7 e9 => ?_)
    have hX7 : IX X7 := by
      rw [e9]
      refine hX6.u1 ?_
      have r10 : X6.1 16 i0 4 = X3.1 16 i0 4 := by simp [e6, u1, up3]
      have r11 := hX6.at1 16 i0 4
      simp only [rgX] at r11
      have r12 : X3.1 16 i0 4 = v1 := by simp [e1, u1, up3]
      have r13 := hX3.at1 16 i0 4
      simp only [rgX] at r13
      simp only [rgX]
      grind
    have r14 : X3.1 16 i0 4 = v1 := by simp [e1, u1, up3]
    have r15 := hX3.at1 16 i0 4
    simp only [rgX] at r15
    exact ok_some ⟨hX7, trivial⟩
theorem s_X1_replace (X : SS) (hX : IX X) (i0 : Nat) (p0 : Int32) (hp0 : (0 : Int32) ≤ p0 ∧ p0 ≤ (2 : Int32)) (p1 : Int32) : ok (f_X1_replace X i0 p0 p1) (fun r => IX r.1 ∧ True) := by
  unfold f_X1_replace
  refine ok_ite (fun q => ?_) (fun q => ?_)
  · have r1 := hX.at1 16 i0 4
    simp only [rgX] at r1
    exact s_X1_replace_J19 X hX i0 p1 (0 : Int32) (by constructor <;> grind)
  · have r2 := hX.at1 16 i0 4
    simp only [rgX] at r2
    exact s_X1_replace_J19 X hX i0 p1 ((X.1 16 i0 4) - p0) (by constructor <;> grind)
theorem s_X1_nextInput (X : SS) (hX : IX X) (i0 : Nat) (i1 : Nat) : ok (f_X1_nextInput X i0 i1) (fun r => IX r.1 ∧ True) := by
  unfold f_X1_nextInput
  refine ok_ite (fun q => ?_) (fun q => ?_)
  · refine ok_lq (fun X2 e1 => ?_)
    have hX2 : IX X2 := by
      rw [e1]
      refine hX.u1 ?_
      have r2 := hX.at1 16 i0 7
      simp only [rgX] at r2
      have r3 := hX.at1 4 i1 2
      simp only [rgX] at r3
      simp only [rgX]
      grind
    refine ok_gd ?_ (fun g0 => ?_)
    · have r4 : X2.1 16 i0 7 = ((X.1 16 i0 7) + (1 : Int32)) := by simp [e1, u1, up3]
      have r5 := hX2.at1 16 i0 7
      simp only [rgX] at r5
      have r6 := hX.at1 16 i0 7
      simp only [rgX] at r6
      have r7 := hX.at1 4 i1 2
      simp only [rgX] at r7
      exact vp_of (by decide) (by grind) (show ((X2.1 16 i0 7) - (1 : Int32)) < (4 : Int32) by grind)
    have r8 : X2.1 16 i0 7 = ((X.1 16 i0 7) + (1 : Int32)) := by simp [e1, u1, up3]
    have r9 := hX2.at1 16 i0 7
    simp only [rgX] at r9
    have r10 := hX.at1 16 i0 7
    simp only [rgX] at r10
    have r11 := hX.at1 4 i1 2
    simp only [rgX] at r11
    exact ok_some ⟨hX2, trivial⟩
  · have r12 := hX.at1 16 i0 7
    simp only [rgX] at r12
    have r13 := hX.at1 4 i1 2
    simp only [rgX] at r13
    exact ok_some ⟨hX, trivial⟩
theorem s_X1_write (X : SS) (hX : IX X) (i0 : Nat) (p0 : Int32) : ok (f_X1_write X i0 p0) (fun r => IX r.1 ∧ True) := by
  unfold f_X1_write
  refine ok_ite (fun q => ?_) (fun q => ?_)
  · have r1 := hX.at1 16 i0 5
    simp only [rgX] at r1
    exact ok_some ⟨hX, trivial⟩
  · refine ok_gd ?_ (fun g0 => ?_)
    · have r2 := hX.at1 16 i0 5
      simp only [rgX] at r2
      exact vp_of (by decide) (by grind) (show (X.1 16 i0 5) < (6 : Int32) by grind)
    refine ok_lq (fun X3 e3 => ?_)
    have hX3 : IX X3 := by
      rw [e3]
      refine hX.u1 ?_
      have r4 := hX.at1 16 i0 5
      simp only [rgX] at r4
      simp only [rgX]
      grind
    refine ok_lq (fun X4 e5 => ?_)
    have hX4 : IX X4 := by
      rw [e5]
      refine hX3.u1 ?_
      have r6 : X3.1 16 i0 5 = X.1 16 i0 5 := by simp [e3, u1, up3]
      have r7 := hX3.at1 16 i0 5
      simp only [rgX] at r7
      have r8 := hX.at1 16 i0 5
      simp only [rgX] at r8
      simp only [rgX]
      grind
    have r9 := hX.at1 16 i0 5
    simp only [rgX] at r9
    exact ok_some ⟨hX4, trivial⟩

theorem whole_pure {L : Nat} {xs : Nat → Int32} (hL : L ≤ 2048) : f_law xs L 1000 0 S0 S0 S0 = some () := sorry
