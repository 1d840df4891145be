/-! what a form gives: it is some, and so -/
def ok {α : Type} (t : Option α) (P : α → Prop) : Prop := ∃ r, t = some r ∧ P r
theorem ok_ite {α : Type} {q : Prop} [Decidable q] {a b : Option α} {P : α → Prop} (h1 : q → ok a P) (h2 : ¬ q → ok b P) : ok (if q then a else b) P := by
  split
  · exact h1 (by assumption)
  · exact h2 (by assumption)
theorem ok_gd {α : Type} {q : Prop} {t : Option α} {P : α → Prop} (h : q) (h2 : q → ok t P) : ok (gd q t) P := by
  rw [gd_t h]
  exact h2 h
theorem ok_lq {α β : Type} {a : α} {k : α → Option β} {P : β → Prop} (h : ∀ x, x = a → ok (k x) P) : ok (lq a k) P := h a rfl
theorem ok_some {α : Type} {r : α} {P : α → Prop} (h : P r) : ok (some r) P := ⟨r, rfl, h⟩
theorem ok_b0 {α β : Type} {t : Option α} {k : α → Option β} {P : α → Prop} {P2 : β → Prop} (h : ok t P) (h2 : ∀ v, P v → ok (k v) P2) : ok (b0 t k) P2 := by
  obtain ⟨r, e, hp⟩ := h
  subst e
  exact h2 r hp
theorem ok_b1 {α β : Type} {t : Option (SS × α)} {k : SS → α → Option β} {P : SS × α → Prop} {P2 : β → Prop} (h : ok t P) (h2 : ∀ X v, P (X, v) → ok (k X v) P2) : ok (b1 t k) P2 := by
  obtain ⟨r, e, hp⟩ := h
  subst e
  exact h2 r.1 r.2 hp
theorem ok_b2 {α β : Type} {t : Option (SS × SS × α)} {k : SS → SS → α → Option β} {P : SS × SS × α → Prop} {P2 : β → Prop} (h : ok t P) (h2 : ∀ X Y v, P (X, Y, v) → ok (k X Y v) P2) : ok (b2 t k) P2 := by
  obtain ⟨r, e, hp⟩ := h
  subst e
  exact h2 r.1 r.2.1 r.2.2 hp
theorem ok_e0 {α β : Type} {t : Option (α ⊕ String)} {k : α → Option β} {ke : String → Option β} {P : α ⊕ String → Prop} {P2 : β → Prop} (h : ok t P) (h2 : ∀ v, P (.inl v) → ok (k v) P2) (h3 : ∀ E, P (.inr E) → ok (ke E) P2) : ok (e0 t k ke) P2 := by
  obtain ⟨r, e, hp⟩ := h
  subst e
  cases r with
  | inl v => exact h2 v hp
  | inr E => exact h3 E hp
theorem ok_e1 {α β : Type} {t : Option (SS × (α ⊕ String))} {k : SS → α → Option β} {ke : SS → String → Option β} {P : SS × (α ⊕ String) → Prop} {P2 : β → Prop} (h : ok t P) (h2 : ∀ X v, P (X, .inl v) → ok (k X v) P2) (h3 : ∀ X E, P (X, .inr E) → ok (ke X E) P2) : ok (e1 t k ke) P2 := by
  obtain ⟨⟨X, o⟩, e, hp⟩ := h
  subst e
  cases o with
  | inl v => exact h2 X v hp
  | inr E => exact h3 X E hp
theorem ok_imp {α : Type} {t : Option α} {P Q : α → Prop} (h : ok t P) (h2 : ∀ r, P r → Q r) : ok t Q := by
  obtain ⟨r, e, hp⟩ := h
  exact ⟨r, e, h2 r hp⟩
theorem vp_of {x : Int32} {n : Nat} (hn : n < 2 ^ 31) (h0 : 0 ≤ x) (h : x < nI n) : vp_in x n := by
  rw [vp_in_iff]
  have h1 := Int32.le_iff_toInt_le.mp h0
  have h2 := Int32.lt_iff_toInt_lt.mp h
  rw [nI_toInt hn] at h2
  have h3 : (0 : Int32).toInt = 0 := rfl
  omega
theorem okc_of {x : Int32} (h0 : 0 ≤ x) (h : x < 65536) : okc x := by
  obtain ⟨j, hj, rfl⟩ := nI_of (x := x) (by grind)
  have h2 := Int32.lt_iff_toInt_lt.mp h
  rw [nI_toInt hj] at h2
  have h3 : (65536 : Int32).toInt = 65536 := rfl
  have hq : j < 65536 := by omega
  exact ⟨(pk_charN hq).1, (pk_charN hq).2⟩
/-- the least and the greatest of a cell -/
def rgX : Nat → Nat → Int32 × Int32
  | 0, 8 => (0, 0)
  | 0, 9 => (0, 8)
  | 0, 10 => (0, 10)
  | 0, 11 => (0, 40)
  | 1, 2 => (0, 24)
  | 2, _ => (0, 65535)
  | 4, 2 => (0, 4)
  | 4, 3 => (0, 6)
  | 7, 1 => (0, 5)
  | 9, 2 => (0, 3)
  | 12, 7 => (0, 9)
  | 12, 8 => (0, 7)
  | 16, 4 => (0, 12)
  | 16, 5 => (0, 6)
  | 16, 7 => (0, 4)
  | 16, 8 => (0, 24)
  | 19, _ => (0, 23)
  | 20, _ => (0, 23)
  | _, _ => (-2147483648, 2147483647)
def IX (X : SS) : Prop := (∀ k i p, (rgX k p).1 ≤ X.1 k i p ∧ X.1 k i p ≤ (rgX k p).2) ∧ ∀ i p, X.2.2.1 10 i p < 71
theorem IX.at1 {X : SS} (h : IX X) (k i p : Nat) : (rgX k p).1 ≤ X.1 k i p ∧ X.1 k i p ≤ (rgX k p).2 := h.1 k i p
theorem IX.at3 {X : SS} (h : IX X) (i p : Nat) : X.2.2.1 10 i p < 71 := h.2 i p
theorem IX.u1 {X : SS} (h : IX X) {k i p : Nat} {x : Int32} (hx : (rgX k p).1 ≤ x ∧ x ≤ (rgX k p).2) : IX (u1 X k i p x) := by
  refine ⟨fun k' i' p' => ?_, h.at3⟩
  show (rgX k' p').1 ≤ up3 X.1 k i p x k' i' p' ∧ up3 X.1 k i p x k' i' p' ≤ (rgX k' p').2
  unfold up3
  split
  · next q => obtain ⟨rfl, rfl, rfl⟩ := q; exact hx
  · exact h.at1 k' i' p'
theorem s_X1_pop {X : SS} (h : IX X) (i0 : Nat) : ok (f_X1_pop X i0) (fun r => IX r.1) := by
  unfold f_X1_pop
  have h1 := h.at1 16 i0 4
  simp only [rgX] at h1
  refine ok_ite (fun q => ok_lq fun X2 e => ok_some ?_) (fun q => ok_lq fun X2 e => ok_some ?_)
  · subst e; exact h.u1 (by simp only [rgX]; grind)
  · subst e; exact h.u1 (by simp only [rgX]; grind)
theorem s_X1_neededBy (p0 : Int32) : ok (f_X1_neededBy p0) (fun r => True) := by
  unfold f_X1_neededBy
  refine ok_ite (fun q => ?_) (fun q => ?_)
  · exact ok_some trivial
  · refine ok_ite (fun q => ?_) (fun q => ?_)
    · exact ok_some trivial
    · refine ok_ite (fun q => ?_) (fun q => ?_)
      · exact ok_some trivial
      · refine ok_ite (fun q => ?_) (fun q => ?_)
        · exact ok_some trivial
        · refine ok_ite (fun q => ?_) (fun q => ?_)
          · exact ok_some trivial
          · refine ok_ite (fun q => ?_) (fun q => ?_)
            · exact ok_some trivial
            · refine ok_ite (fun q => ?_) (fun q => ?_)
              · exact ok_some trivial
              · exact ok_some trivial
theorem s_X1_numberUnder (X : SS) (hX : IX X) (i0 : Nat) (p0 : Int32) : ok (f_X1_numberUnder X i0 p0) (fun r => True) := by
  unfold f_X1_numberUnder
  refine ok_lq (fun v1 e1 => ?_)
  refine ok_ite (fun q => ?_) (fun q => ?_)
  · have r2 := hX.at1 16 i0 4
    simp only [rgX] at r2
    exact ok_some trivial
  · refine ok_ite (fun q => ?_) (fun q => ?_)
    · have r3 := hX.at1 16 i0 4
      simp only [rgX] at r3
      exact ok_some trivial
    · refine ok_gd ?_ (fun g0 => ?_)
      · have r4 := hX.at1 16 i0 4
        simp only [rgX] at r4
        exact vp_of (by decide) (by grind) (show v1 < (12 : Int32) by grind)
      have r5 := hX.at1 17 i0 (v1).toNatClampNeg
      simp only [rgX] at r5
      have r6 := hX.at1 16 i0 4
      simp only [rgX] at r6
      exact ok_some trivial
theorem s_X1_errorOf_J104 (p0 : Int32) (X : SS) (hX : IX X) (i0 : Nat) : ok (f_X1_errorOf_J104 p0 X i0) (fun r => True) := by
  unfold f_X1_errorOf_J104
  refine ok_ite (fun q => ?_) (fun q => ?_)
  · refine ok_ite (fun q => ?_) (fun q => ?_)
    · have r1 := hX.at1 16 i0 5
      simp only [rgX] at r1
      exact ok_some trivial
    · have r2 := hX.at1 16 i0 5
      simp only [rgX] at r2
      exact ok_some trivial
  · exact ok_some trivial
theorem s_X1_errorOf_J87 (p0 : Int32) (X : SS) (hX : IX X) (i0 : Nat) (v7 : Int32) : ok (f_X1_errorOf_J87 p0 X i0 v7) (fun r => True) := by
  unfold f_X1_errorOf_J87
  refine ok_ite (fun q => ?_) (fun q => ?_)
  · exact s_X1_errorOf_J104 p0 X hX i0
  · refine ok_ite (fun q => ?_) (fun q => ?_)
    · have r1 := hX.at1 16 i0 4
      simp only [rgX] at r1
      exact s_X1_errorOf_J104 p0 X hX i0
    · have r2 := hX.at1 16 i0 4
      simp only [rgX] at r2
      exact ok_some trivial
theorem s_X1_errorOf_J82 (p0 : Int32) (X : SS) (hX : IX X) (i0 : Nat) : ok (f_X1_errorOf_J82 p0 X i0) (fun r => True) := by
  unfold f_X1_errorOf_J82
  exact s_X1_errorOf_J87 p0 X hX i0 (1 : Int32)
theorem s_X1_errorOf_J64 (p0 : Int32) (X : SS) (hX : IX X) (i0 : Nat) : ok (f_X1_errorOf_J64 p0 X i0) (fun r => True) := by
  unfold f_X1_errorOf_J64
  refine ok_ite (fun q => ?_) (fun q => ?_)
  · exact s_X1_errorOf_J82 p0 X hX i0
  · refine ok_ite (fun q => ?_) (fun q => ?_)
    · exact s_X1_errorOf_J82 p0 X hX i0
    · refine ok_ite (fun q => ?_) (fun q => ?_)
      · exact s_X1_errorOf_J82 p0 X hX i0
      · exact s_X1_errorOf_J87 p0 X hX i0 (0 : Int32)
theorem s_X1_errorOf_J47 (p0 : Int32) (X : SS) (hX : IX X) (i0 : Nat) : ok (f_X1_errorOf_J47 p0 X i0) (fun r => True) := by
  unfold f_X1_errorOf_J47
  refine ok_ite (fun q => ?_) (fun q => ?_)
  · refine ok_b0 (s_X1_numberUnder X hX i0 (0 : Int32)) (fun v19 hr => ?_)
    refine ok_ite (fun q => ?_) (fun q => ?_)
    · exact ok_some trivial
    · exact s_X1_errorOf_J64 p0 X hX i0
  · exact s_X1_errorOf_J64 p0 X hX i0
theorem s_X1_errorOf (X : SS) (hX : IX X) (i0 : Nat) (p0 : Int32) (i2 : Nat) : ok (f_X1_errorOf X i0 p0 i2) (fun r => True) := by
  unfold f_X1_errorOf
  refine ok_ite (fun q => ?_) (fun q => ?_)
  · have r1 := hX.at1 16 i0 6
    simp only [rgX] at r1
    refine ok_b0 (s_X1_neededBy p0) (fun v2 hr => ?_)
    refine ok_ite (fun q => ?_) (fun q => ?_)
    · refine ok_ite (fun q => ?_) (fun q => ?_)
      · refine ok_ite (fun q => ?_) (fun q => ?_)
        · have r2 := hX.at1 16 i0 6
          simp only [rgX] at r2
          have r3 := hX.at1 16 i0 4
          simp only [rgX] at r3
          have r4 := hX.at1 16 i0 7
          simp only [rgX] at r4
          have r5 := hX.at1 4 i2 2
          simp only [rgX] at r5
          exact s_X1_errorOf_J47 p0 X hX i0
        · have r6 := hX.at1 16 i0 6
          simp only [rgX] at r6
          have r7 := hX.at1 16 i0 4
          simp only [rgX] at r7
          have r8 := hX.at1 16 i0 7
          simp only [rgX] at r8
          have r9 := hX.at1 4 i2 2
          simp only [rgX] at r9
          exact ok_some trivial
      · have r10 := hX.at1 16 i0 6
        simp only [rgX] at r10
        have r11 := hX.at1 16 i0 4
        simp only [rgX] at r11
        exact s_X1_errorOf_J47 p0 X hX i0
    · have r12 := hX.at1 16 i0 6
      simp only [rgX] at r12
      have r13 := hX.at1 16 i0 4
      simp only [rgX] at r13
      exact ok_some trivial
  · have r14 := hX.at1 16 i0 6
    simp only [rgX] at r14
    exact ok_some trivial
theorem s_X1_replace_J19 (X : SS) (hX : IX X) (i0 : Nat) (p1 : Int32) (v1 : Int32) (hv1 : (0 : Int32) ≤ v1 ∧ v1 ≤ (12 : Int32)) : ok (f_X1_replace_J19 X i0 p1 v1) (fun r => IX r.1 ∧ True) := by
  unfold f_X1_replace_J19
  refine ok_lq (fun X3 e1 => ?_)
  have hX3 : IX X3 := by
    rw [e1]
    refine hX.u1 ?_
    simp only [rgX]
    grind
  refine ok_ite (fun q => ?_) (fun q => ?_)
  · have r2 : X3.1 16 i0 4 = v1 := by simp [e1, u1, up3]
    have r3 := hX3.at1 16 i0 4
    simp only [rgX] at r3
    exact ok_some ⟨hX3, trivial⟩
  · refine ok_gd ?_ (fun g0 => ?_)
    · have r4 : X3.1 16 i0 4 = v1 := by simp [e1, u1, up3]
      have r5 := hX3.at1 16 i0 4
      simp only [rgX] at r5
      exact vp_of (by decide) (by grind) (show (X3.1 16 i0 4) < (12 : Int32) by grind)
    refine ok_lq (fun X6 e6 => ?_)
    have hX6 : IX X6 := by
      rw [e6]
      refine hX3.u1 ?_
      have r7 : X3.1 16 i0 4 = v1 := by simp [e1, u1, up3]
      have r8 := hX3.at1 16 i0 4
      simp only [rgX] at r8
      simp only [rgX]
      grind
    refine ok_lq (fun X7 e9 => ?_)
    have hX7 : IX X7 := by
      rw [e9]
      refine hX6.u1 ?_
      have r10 : X6.1 16 i0 4 = X3.1 16 i0 4 := by simp [e6, u1, up3]
      have r11 := hX6.at1 16 i0 4
      simp only [rgX] at r11
      have r12 : X3.1 16 i0 4 = v1 := by simp [e1, u1, up3]
      have r13 := hX3.at1 16 i0 4
      simp only [rgX] at r13
      simp only [rgX]
      grind
    have r14 : X3.1 16 i0 4 = v1 := by simp [e1, u1, up3]
    have r15 := hX3.at1 16 i0 4
    simp only [rgX] at r15
    exact ok_some ⟨hX7, trivial⟩
theorem s_X1_replace (X : SS) (hX : IX X) (i0 : Nat) (p0 : Int32) (hp0 : (0 : Int32) ≤ p0 ∧ p0 ≤ (2 : Int32)) (p1 : Int32) : ok (f_X1_replace X i0 p0 p1) (fun r => IX r.1 ∧ True) := by
  unfold f_X1_replace
  refine ok_ite (fun q => ?_) (fun q => ?_)
  · have r1 := hX.at1 16 i0 4
    simp only [rgX] at r1
    exact s_X1_replace_J19 X hX i0 p1 (0 : Int32) (by constructor <;> grind)
  · have r2 := hX.at1 16 i0 4
    simp only [rgX] at r2
    exact s_X1_replace_J19 X hX i0 p1 ((X.1 16 i0 4) - p0) (by constructor <;> grind)
theorem s_X1_nextInput (X : SS) (hX : IX X) (i0 : Nat) (i1 : Nat) : ok (f_X1_nextInput X i0 i1) (fun r => IX r.1 ∧ True) := by
  unfold f_X1_nextInput
  refine ok_ite (fun q => ?_) (fun q => ?_)
  · refine ok_lq (fun X2 e1 => ?_)
    have hX2 : IX X2 := by
      rw [e1]
      refine hX.u1 ?_
      have r2 := hX.at1 16 i0 7
      simp only [rgX] at r2
      have r3 := hX.at1 4 i1 2
      simp only [rgX] at r3
      simp only [rgX]
      grind
    refine ok_gd ?_ (fun g0 => ?_)
    · have r4 : X2.1 16 i0 7 = ((X.1 16 i0 7) + (1 : Int32)) := by simp [e1, u1, up3]
      have r5 := hX2.at1 16 i0 7
      simp only [rgX] at r5
      have r6 := hX.at1 16 i0 7
      simp only [rgX] at r6
      have r7 := hX.at1 4 i1 2
      simp only [rgX] at r7
      exact vp_of (by decide) (by grind) (show ((X2.1 16 i0 7) - (1 : Int32)) < (4 : Int32) by grind)
    have r8 : X2.1 16 i0 7 = ((X.1 16 i0 7) + (1 : Int32)) := by simp [e1, u1, up3]
    have r9 := hX2.at1 16 i0 7
    simp only [rgX] at r9
    have r10 := hX.at1 16 i0 7
    simp only [rgX] at r10
    have r11 := hX.at1 4 i1 2
    simp only [rgX] at r11
    exact ok_some ⟨hX2, trivial⟩
  · have r12 := hX.at1 16 i0 7
    simp only [rgX] at r12
    have r13 := hX.at1 4 i1 2
    simp only [rgX] at r13
    exact ok_some ⟨hX, trivial⟩
theorem s_X1_pop (X : SS) (hX : IX X) (i0 : Nat) : ok (f_X1_pop X i0) (fun r => IX r.1 ∧ True) := by
  unfold f_X1_pop
  refine ok_ite (fun q => ?_) (fun q => ?_)
  · refine ok_lq (fun X2 e1 => ?_)
    have hX2 : IX X2 := by
      rw [e1]
      refine hX.u1 ?_
      have r2 := hX.at1 16 i0 4
      simp only [rgX] at r2
      simp only [rgX]
      grind
    have r3 := hX.at1 16 i0 4
    simp only [rgX] at r3
    exact ok_some ⟨hX2, trivial⟩
  · refine ok_lq (fun X3 e4 => ?_)
    have hX3 : IX X3 := by
      rw [e4]
      refine hX.u1 ?_
      have r5 := hX.at1 16 i0 4
      simp only [rgX] at r5
      simp only [rgX]
      grind
    have r6 := hX.at1 16 i0 4
    simp only [rgX] at r6
    exact ok_some ⟨hX3, trivial⟩
theorem s_X1_write (X : SS) (hX : IX X) (i0 : Nat) (p0 : Int32) : ok (f_X1_write X i0 p0) (fun r => IX r.1 ∧ True) := by
  unfold f_X1_write
  refine ok_ite (fun q => ?_) (fun q => ?_)
  · have r1 := hX.at1 16 i0 5
    simp only [rgX] at r1
    exact ok_some ⟨hX, trivial⟩
  · refine ok_gd ?_ (fun g0 => ?_)
    · have r2 := hX.at1 16 i0 5
      simp only [rgX] at r2
      exact vp_of (by decide) (by grind) (show (X.1 16 i0 5) < (6 : Int32) by grind)
    refine ok_lq (fun X3 e3 => ?_)
    have hX3 : IX X3 := by
      rw [e3]
      refine hX.u1 ?_
      have r4 := hX.at1 16 i0 5
      simp only [rgX] at r4
      simp only [rgX]
      grind
    refine ok_lq (fun X4 e5 => ?_)
    have hX4 : IX X4 := by
      rw [e5]
      refine hX3.u1 ?_
      have r6 : X3.1 16 i0 5 = X.1 16 i0 5 := by simp [e3, u1, up3]
      have r7 := hX3.at1 16 i0 5
      simp only [rgX] at r7
      have r8 := hX.at1 16 i0 5
      simp only [rgX] at r8
      simp only [rgX]
      grind
    have r9 := hX.at1 16 i0 5
    simp only [rgX] at r9
    exact ok_some ⟨hX4, trivial⟩
theorem s_X1_perform (X : SS) (hX : IX X) (i0 : Nat) (p0 : Int32) (p1 : Int32) (i3 : Nat) : ok (f_X1_perform X i0 p0 p1 i3) (fun r => IX r.1 ∧ True) := by
  unfold f_X1_perform
  refine ok_b0 (s_X1_numberUnder X hX i0 (0 : Int32)) (fun v1 hr => ?_)
  refine ok_b0 (s_X1_numberUnder X hX i0 (1 : Int32)) (fun v3 hr => ?_)
  refine ok_lq (fun v5 e1 => ?_)
  refine ok_ite (fun q => ?_) (fun q => ?_)
  · refine ok_ite (fun q => ?_) (fun q => ?_)
    · have r2 := hX.at1 16 i0 8
      simp only [rgX] at r2
      refine ok_b1 (s_X1_replace X hX i0 (2 : Int32) (by constructor <;> grind) (0 : Int32)) (fun X15 v14 hr => ?_)
      obtain ⟨hX15, w3⟩ := hr
      refine ok_lq (fun X17 e4 => ?_)
      have hX17 : IX X17 := by
        rw [e4]
        refine hX15.u1 ?_
        have r5 := hX.at1 16 i0 8
        simp only [rgX] at r5
        simp only [rgX]
        grind
      have r6 := hX.at1 16 i0 8
      simp only [rgX] at r6
      exact ok_some ⟨hX17, trivial⟩
    · refine ok_gd ?_ (fun g0 => ?_)
      · have r7 := hX.at1 16 i0 8
        simp only [rgX] at r7
        grind
      have r8 := hX.at1 16 i0 8
      simp only [rgX] at r8
      refine ok_b1 (s_X1_replace X hX i0 (2 : Int32) (by constructor <;> grind) (v3 - v3 / v1 * v1)) (fun X11 v10 hr => ?_)
      obtain ⟨hX11, w9⟩ := hr
      refine ok_lq (fun X13 e10 => ?_)
      have hX13 : IX X13 := by
        rw [e10]
        refine hX11.u1 ?_
        have r11 := hX.at1 16 i0 8
        simp only [rgX] at r11
        simp only [rgX]
        grind
      have r12 := hX.at1 16 i0 8
      simp only [rgX] at r12
      exact ok_some ⟨hX13, trivial⟩
  · refine ok_ite (fun q => ?_) (fun q => ?_)
    · have r13 := hX.at1 16 i0 8
      simp only [rgX] at r13
      refine ok_b1 (s_X1_replace X hX i0 (2 : Int32) (by constructor <;> grind) (v3 * v1)) (fun X20 v19 hr => ?_)
      obtain ⟨hX20, w14⟩ := hr
      refine ok_lq (fun X22 e15 => ?_)
      have hX22 : IX X22 := by
        rw [e15]
        refine hX20.u1 ?_
        have r16 := hX.at1 16 i0 8
        simp only [rgX] at r16
        simp only [rgX]
        grind
      have r17 := hX.at1 16 i0 8
      simp only [rgX] at r17
      exact ok_some ⟨hX22, trivial⟩
    · refine ok_ite (fun q => ?_) (fun q => ?_)
      · have r18 := hX.at1 16 i0 8
        simp only [rgX] at r18
        refine ok_b1 (s_X1_replace X hX i0 (2 : Int32) (by constructor <;> grind) (v3 + v1)) (fun X25 v24 hr => ?_)
        obtain ⟨hX25, w19⟩ := hr
        refine ok_lq (fun X27 e20 => ?_)
        have hX27 : IX X27 := by
          rw [e20]
          refine hX25.u1 ?_
          have r21 := hX.at1 16 i0 8
          simp only [rgX] at r21
          simp only [rgX]
          grind
        have r22 := hX.at1 16 i0 8
        simp only [rgX] at r22
        exact ok_some ⟨hX27, trivial⟩
      · refine ok_ite (fun q => ?_) (fun q => ?_)
        · have r23 := hX.at1 16 i0 8
          simp only [rgX] at r23
          refine ok_b1 (s_X1_replace X hX i0 (2 : Int32) (by constructor <;> grind) (v3 - v1)) (fun X30 v29 hr => ?_)
          obtain ⟨hX30, w24⟩ := hr
          refine ok_lq (fun X32 e25 => ?_)
          have hX32 : IX X32 := by
            rw [e25]
            refine hX30.u1 ?_
            have r26 := hX.at1 16 i0 8
            simp only [rgX] at r26
            simp only [rgX]
            grind
          have r27 := hX.at1 16 i0 8
          simp only [rgX] at r27
          exact ok_some ⟨hX32, trivial⟩
        · refine ok_ite (fun q => ?_) (fun q => ?_)
          · refine ok_ite (fun q => ?_) (fun q => ?_)
            · refine ok_gd ?_ (fun g0 => ?_)
              · have r28 := hX.at1 16 i0 8
                simp only [rgX] at r28
                exact vp_of (by decide) (by grind) (show (X.1 16 i0 8) < (24 : Int32) by grind)
              refine ok_lq (fun v37 e29 => ?_)
              refine ok_lq (fun X38 e30 => ?_)
              have hX38 : IX X38 := by
                rw [e30]
                refine hX.u1 ?_
                have r31 := hX.at1 16 i0 8
                simp only [rgX] at r31
                have r32 := hX.at1 19 i0 ((X.1 16 i0 8)).toNatClampNeg
                simp only [rgX] at r32
                simp only [rgX]
                grind
              have r33 := hX.at1 16 i0 8
              simp only [rgX] at r33
              have r34 := hX.at1 19 i0 ((X.1 16 i0 8)).toNatClampNeg
              simp only [rgX] at r34
              exact ok_some ⟨hX38, trivial⟩
            · refine ok_lq (fun X35 e35 => ?_)
              have hX35 : IX X35 := by
                rw [e35]
                refine hX.u1 ?_
                have r36 := hX.at1 16 i0 8
                simp only [rgX] at r36
                simp only [rgX]
                grind
              have r37 := hX.at1 16 i0 8
              simp only [rgX] at r37
              exact ok_some ⟨hX35, trivial⟩
          · refine ok_ite (fun q => ?_) (fun q => ?_)
            · refine ok_ite (fun q => ?_) (fun q => ?_)
              · refine ok_lq (fun X41 e38 => ?_)
                have hX41 : IX X41 := by
                  rw [e38]
                  refine hX.u1 ?_
                  have r39 := hX.at1 16 i0 8
                  simp only [rgX] at r39
                  simp only [rgX]
                  grind
                have r40 := hX.at1 16 i0 8
                simp only [rgX] at r40
                exact ok_some ⟨hX41, trivial⟩
              · refine ok_gd ?_ (fun g0 => ?_)
                · have r41 := hX.at1 16 i0 8
                  simp only [rgX] at r41
                  exact vp_of (by decide) (by grind) (show (X.1 16 i0 8) < (24 : Int32) by grind)
                refine ok_lq (fun v43 e42 => ?_)
                refine ok_lq (fun X44 e43 => ?_)
                have hX44 : IX X44 := by
                  rw [e43]
                  refine hX.u1 ?_
                  have r44 := hX.at1 16 i0 8
                  simp only [rgX] at r44
                  have r45 := hX.at1 19 i0 ((X.1 16 i0 8)).toNatClampNeg
                  simp only [rgX] at r45
                  simp only [rgX]
                  grind
                have r46 := hX.at1 16 i0 8
                simp only [rgX] at r46
                have r47 := hX.at1 19 i0 ((X.1 16 i0 8)).toNatClampNeg
                simp only [rgX] at r47
                exact ok_some ⟨hX44, trivial⟩
            · refine ok_ite (fun q => ?_) (fun q => ?_)
              · have r48 := hX.at1 16 i0 8
                simp only [rgX] at r48
                refine ok_b1 (s_X1_replace X hX i0 (0 : Int32) (by constructor <;> grind) v1) (fun X47 v46 hr => ?_)
                obtain ⟨hX47, w49⟩ := hr
                refine ok_lq (fun X49 e50 => ?_)
                have hX49 : IX X49 := by
                  rw [e50]
                  refine hX47.u1 ?_
                  have r51 := hX.at1 16 i0 8
                  simp only [rgX] at r51
                  simp only [rgX]
                  grind
                have r52 := hX.at1 16 i0 8
                simp only [rgX] at r52
                exact ok_some ⟨hX49, trivial⟩
              · refine ok_ite (fun q => ?_) (fun q => ?_)
                · have r53 := hX.at1 16 i0 8
                  simp only [rgX] at r53
                  refine ok_b1 (s_X1_nextInput X hX i0 i3) (fun X52 v51 hr => ?_)
                  obtain ⟨hX52, w54⟩ := hr
                  have r55 := hX.at1 16 i0 8
                  simp only [rgX] at r55
                  refine ok_b1 (s_X1_replace X52 hX52 i0 (0 : Int32) (by constructor <;> grind) v51) (fun X55 v54 hr => ?_)
                  obtain ⟨hX55, w56⟩ := hr
                  refine ok_lq (fun X57 e57 => ?_)
                  have hX57 : IX X57 := by
                    rw [e57]
                    refine hX55.u1 ?_
                    have r58 := hX.at1 16 i0 8
                    simp only [rgX] at r58
                    simp only [rgX]
                    grind
                  have r59 := hX.at1 16 i0 8
                  simp only [rgX] at r59
                  exact ok_some ⟨hX57, trivial⟩
                · refine ok_ite (fun q => ?_) (fun q => ?_)
                  · have r60 := hX.at1 16 i0 8
                    simp only [rgX] at r60
                    refine ok_b1 (s_X1_replace X hX i0 (0 : Int32) (by constructor <;> grind) p1) (fun X60 v59 hr => ?_)
                    obtain ⟨hX60, w61⟩ := hr
                    refine ok_lq (fun X62 e62 => ?_)
                    have hX62 : IX X62 := by
                      rw [e62]
                      refine hX60.u1 ?_
                      have r63 := hX.at1 16 i0 8
                      simp only [rgX] at r63
                      simp only [rgX]
                      grind
                    have r64 := hX.at1 16 i0 8
                    simp only [rgX] at r64
                    exact ok_some ⟨hX62, trivial⟩
                  · refine ok_ite (fun q => ?_) (fun q => ?_)
                    · have r65 := hX.at1 16 i0 8
                      simp only [rgX] at r65
                      refine ok_b1 (s_X1_pop X hX i0) (fun X65 v64 hr => ?_)
                      obtain ⟨hX65, w66⟩ := hr
                      have r67 := hX.at1 16 i0 8
                      simp only [rgX] at r67
                      refine ok_b1 (s_X1_write X65 hX65 i0 v1) (fun X68 v67 hr => ?_)
                      obtain ⟨hX68, w68⟩ := hr
                      refine ok_lq (fun X70 e69 => ?_)
                      have hX70 : IX X70 := by
                        rw [e69]
                        refine hX68.u1 ?_
                        have r70 := hX.at1 16 i0 8
                        simp only [rgX] at r70
                        simp only [rgX]
                        grind
                      have r71 := hX.at1 16 i0 8
                      simp only [rgX] at r71
                      exact ok_some ⟨hX70, trivial⟩
                    · refine ok_ite (fun q => ?_) (fun q => ?_)
                      · have r72 := hX.at1 16 i0 8
                        simp only [rgX] at r72
                        refine ok_b1 (s_X1_pop X hX i0) (fun X73 v72 hr => ?_)
                        obtain ⟨hX73, w73⟩ := hr
                        refine ok_lq (fun X75 e74 => ?_)
                        have hX75 : IX X75 := by
                          rw [e74]
                          refine hX73.u1 ?_
                          have r75 := hX.at1 16 i0 8
                          simp only [rgX] at r75
                          simp only [rgX]
                          grind
                        have r76 := hX.at1 16 i0 8
                        simp only [rgX] at r76
                        exact ok_some ⟨hX75, trivial⟩
                      · refine ok_ite (fun q => ?_) (fun q => ?_)
                        · have r77 := hX.at1 16 i0 8
                          simp only [rgX] at r77
                          refine ok_b1 (s_X1_replace X hX i0 (2 : Int32) (by constructor <;> grind) v1) (fun X78 v77 hr => ?_)
                          obtain ⟨hX78, w78⟩ := hr
                          have r79 := hX.at1 16 i0 8
                          simp only [rgX] at r79
                          refine ok_b1 (s_X1_replace X78 hX78 i0 (0 : Int32) (by constructor <;> grind) v3) (fun X81 v80 hr => ?_)
                          obtain ⟨hX81, w80⟩ := hr
                          refine ok_lq (fun X83 e81 => ?_)
                          have hX83 : IX X83 := by
                            rw [e81]
                            refine hX81.u1 ?_
                            have r82 := hX.at1 16 i0 8
                            simp only [rgX] at r82
                            simp only [rgX]
                            grind
                          have r83 := hX.at1 16 i0 8
                          simp only [rgX] at r83
                          exact ok_some ⟨hX83, trivial⟩
                        · refine ok_lq (fun X84 e84 => ?_)
                          have hX84 : IX X84 := by
                            rw [e84]
                            refine hX.u1 ?_
                            have r85 := hX.at1 16 i0 8
                            simp only [rgX] at r85
                            simp only [rgX]
                            grind
                          have r86 := hX.at1 16 i0 8
                          simp only [rgX] at r86
                          exact ok_some ⟨hX84, trivial⟩
theorem s_X3_append (X : SS) (hX : IX X) (i0 : Nat) (p0 : Int32) (p1 : Int32) : ok (f_X3_append X i0 p0 p1) (fun r => IX r.1 ∧ True) := by
  unfold f_X3_append
  refine ok_ite (fun q => ?_) (fun q => ?_)
  · have r1 := hX.at1 1 i0 2
    simp only [rgX] at r1
    exact ok_some ⟨hX, trivial⟩
  · refine ok_gd ?_ (fun g0 => ?_)
    · have r2 := hX.at1 1 i0 2
      simp only [rgX] at r2
      exact vp_of (by decide) (by grind) (show (X.1 1 i0 2) < (24 : Int32) by grind)
    refine ok_lq (fun X3 e3 => ?_)
    have hX3 : IX X3 := by
      rw [e3]
      refine hX.u1 ?_
      have r4 := hX.at1 1 i0 2
      simp only [rgX] at r4
      simp only [rgX]
      grind
    refine ok_gd ?_ (fun g0 => ?_)
    · have r5 : X3.1 1 i0 2 = X.1 1 i0 2 := by simp [e3, u1, up3]
      have r6 := hX3.at1 1 i0 2
      simp only [rgX] at r6
      have r7 := hX.at1 1 i0 2
      simp only [rgX] at r7
      exact vp_of (by decide) (by grind) (show (X3.1 1 i0 2) < (24 : Int32) by grind)
    refine ok_lq (fun X5 e8 => ?_)
    have hX5 : IX X5 := by
      rw [e8]
      refine hX3.u1 ?_
      have r9 := hX.at1 1 i0 2
      simp only [rgX] at r9
      simp only [rgX]
      grind
    refine ok_lq (fun X6 e10 => ?_)
    have hX6 : IX X6 := by
      rw [e10]
      refine hX5.u1 ?_
      have r11 : X5.1 1 i0 2 = X3.1 1 i0 2 := by simp [e8, u1, up3]
      have r12 := hX5.at1 1 i0 2
      simp only [rgX] at r12
      have r13 := hX.at1 1 i0 2
      simp only [rgX] at r13
      have r14 : X3.1 1 i0 2 = X.1 1 i0 2 := by simp [e3, u1, up3]
      have r15 := hX3.at1 1 i0 2
      simp only [rgX] at r15
      simp only [rgX]
      grind
    have r16 := hX.at1 1 i0 2
    simp only [rgX] at r16
    exact ok_some ⟨hX6, trivial⟩
theorem s_X3_erase (X : SS) (hX : IX X) (i0 : Nat) : ok (f_X3_erase X i0) (fun r => IX r.1 ∧ True) := by
  unfold f_X3_erase
  refine ok_lq (fun X1 e1 => ?_)
  have hX1 : IX X1 := by
    rw [e1]
    refine hX.u1 ?_
    simp only [rgX]
    grind
  exact ok_some ⟨hX1, trivial⟩
theorem s_X4_addInput (X : SS) (hX : IX X) (i0 : Nat) (p0 : Int32) : ok (f_X4_addInput X i0 p0) (fun r => IX r.1 ∧ True) := by
  unfold f_X4_addInput
  refine ok_ite (fun q => ?_) (fun q => ?_)
  · have r1 := hX.at1 4 i0 2
    simp only [rgX] at r1
    exact ok_some ⟨hX, trivial⟩
  · refine ok_gd ?_ (fun g0 => ?_)
    · have r2 := hX.at1 4 i0 2
      simp only [rgX] at r2
      exact vp_of (by decide) (by grind) (show (X.1 4 i0 2) < (4 : Int32) by grind)
    refine ok_lq (fun X3 e3 => ?_)
    have hX3 : IX X3 := by
      rw [e3]
      refine hX.u1 ?_
      have r4 := hX.at1 4 i0 2
      simp only [rgX] at r4
      simp only [rgX]
      grind
    refine ok_lq (fun X4 e5 => ?_)
    have hX4 : IX X4 := by
      rw [e5]
      refine hX3.u1 ?_
      have r6 : X3.1 4 i0 2 = X.1 4 i0 2 := by simp [e3, u1, up3]
      have r7 := hX3.at1 4 i0 2
      simp only [rgX] at r7
      have r8 := hX.at1 4 i0 2
      simp only [rgX] at r8
      simp only [rgX]
      grind
    have r9 : X4.1 4 i0 2 = ((X3.1 4 i0 2) + (1 : Int32)) := by simp [e5, u1, up3]
    have r10 := hX4.at1 4 i0 2
    simp only [rgX] at r10
    have r11 := hX.at1 4 i0 2
    simp only [rgX] at r11
    have r12 : X3.1 4 i0 2 = X.1 4 i0 2 := by simp [e3, u1, up3]
    have r13 := hX3.at1 4 i0 2
    simp only [rgX] at r13
    exact ok_some ⟨hX4, trivial⟩
theorem s_X4_addExpected (X : SS) (hX : IX X) (i0 : Nat) (p0 : Int32) : ok (f_X4_addExpected X i0 p0) (fun r => IX r.1 ∧ True) := by
  unfold f_X4_addExpected
  refine ok_ite (fun q => ?_) (fun q => ?_)
  · have r1 := hX.at1 4 i0 3
    simp only [rgX] at r1
    exact ok_some ⟨hX, trivial⟩
  · refine ok_gd ?_ (fun g0 => ?_)
    · have r2 := hX.at1 4 i0 3
      simp only [rgX] at r2
      exact vp_of (by decide) (by grind) (show (X.1 4 i0 3) < (6 : Int32) by grind)
    refine ok_lq (fun X3 e3 => ?_)
    have hX3 : IX X3 := by
      rw [e3]
      refine hX.u1 ?_
      have r4 := hX.at1 4 i0 3
      simp only [rgX] at r4
      simp only [rgX]
      grind
    refine ok_lq (fun X4 e5 => ?_)
    have hX4 : IX X4 := by
      rw [e5]
      refine hX3.u1 ?_
      have r6 : X3.1 4 i0 3 = X.1 4 i0 3 := by simp [e3, u1, up3]
      have r7 := hX3.at1 4 i0 3
      simp only [rgX] at r7
      have r8 := hX.at1 4 i0 3
      simp only [rgX] at r8
      simp only [rgX]
      grind
    have r9 : X4.1 4 i0 3 = ((X3.1 4 i0 3) + (1 : Int32)) := by simp [e5, u1, up3]
    have r10 := hX4.at1 4 i0 3
    simp only [rgX] at r10
    have r11 := hX.at1 4 i0 3
    simp only [rgX] at r11
    have r12 : X3.1 4 i0 3 = X.1 4 i0 3 := by simp [e3, u1, up3]
    have r13 := hX3.at1 4 i0 3
    simp only [rgX] at r13
    exact ok_some ⟨hX4, trivial⟩
theorem s_X4_erase (X : SS) (hX : IX X) (i0 : Nat) : ok (f_X4_erase X i0) (fun r => IX r.1 ∧ True) := by
  unfold f_X4_erase
  refine ok_lq (fun X1 e1 => ?_)
  have hX1 : IX X1 := by
    rw [e1]
    refine hX.u1 ?_
    simp only [rgX]
    grind
  refine ok_lq (fun X2 e2 => ?_)
  have hX2 : IX X2 := by
    rw [e2]
    refine hX1.u1 ?_
    simp only [rgX]
    grind
  exact ok_some ⟨hX2, trivial⟩
theorem s_X5_isCounted (X : SS) (hX : IX X) (i0 : Nat) : ok (f_X5_isCounted X i0) (fun r => True) := by
  unfold f_X5_isCounted
  refine ok_ite (fun q => ?_) (fun q => ?_)
  · have r1 := hX.at1 12 i0 11
    simp only [rgX] at r1
    exact ok_some trivial
  · refine ok_ite (fun q => ?_) (fun q => ?_)
    · have r2 := hX.at1 12 i0 11
      simp only [rgX] at r2
      exact ok_some trivial
    · refine ok_ite (fun q => ?_) (fun q => ?_)
      · have r3 := hX.at1 12 i0 11
        simp only [rgX] at r3
        exact ok_some trivial
      · have r4 := hX.at1 12 i0 11
        simp only [rgX] at r4
        exact ok_some trivial
theorem s_X5_takeVote_J19 (X : SS) (hX : IX X) (i0 : Nat) (p0 : Int32) (p2 : Int32) (p1 : Int32) (v2 : Int32) : ok (f_X5_takeVote_J19 X i0 p0 p2 p1 v2) (fun r => IX r.1 ∧ True) := by
  unfold f_X5_takeVote_J19
  refine ok_lq (fun X4 e1 => ?_)
  have hX4 : IX X4 := by
    rw [e1]
    refine hX.u1 ?_
    have r2 := hX.at1 12 i0 4
    simp only [rgX] at r2
    simp only [rgX]
    grind
  refine ok_gd ?_ (fun g0 => ?_)
  · exact vp_of (by decide) (by grind) (show p0 < (10 : Int32) by grind)
  refine ok_lq (fun X6 e3 => ?_)
  have hX6 : IX X6 := by
    rw [e3]
    refine hX4.u1 ?_
    have r4 : X4.1 12 i0 5 = X.1 12 i0 5 := by simp [e1, u1, up3]
    have r5 := hX4.at1 12 i0 5
    simp only [rgX] at r5
    have r6 : X4.1 15 i0 (p0).toNatClampNeg = X.1 15 i0 (p0).toNatClampNeg := by simp [e1, u1, up3]
    have r7 := hX4.at1 15 i0 (p0).toNatClampNeg
    simp only [rgX] at r7
    have r8 := hX.at1 12 i0 5
    simp only [rgX] at r8
    have r9 := hX.at1 15 i0 (p0).toNatClampNeg
    simp only [rgX] at r9
    simp only [rgX]
    grind
  refine ok_gd ?_ (fun g0 => ?_)
  · exact vp_of (by decide) (by grind) (show p0 < (10 : Int32) by grind)
  refine ok_gd ?_ (fun g0 => ?_)
  · exact vp_of (by decide) (by grind) (show p0 < (10 : Int32) by grind)
  refine ok_lq (fun X9 e10 => ?_)
  have hX9 : IX X9 := by
    rw [e10]
    refine hX6.u1 ?_
    have r11 : X6.1 12 i0 6 = X4.1 12 i0 6 := by simp [e3, u1, up3]
    have r12 := hX6.at1 12 i0 6
    simp only [rgX] at r12
    have r13 : X6.1 14 i0 (p0).toNatClampNeg = X4.1 14 i0 (p0).toNatClampNeg := by simp [e3, u1, up3]
    have r14 := hX6.at1 14 i0 (p0).toNatClampNeg
    simp only [rgX] at r14
    have r15 : X6.1 15 i0 (p0).toNatClampNeg = X4.1 15 i0 (p0).toNatClampNeg := by simp [e3, u1, up3]
    have r16 := hX6.at1 15 i0 (p0).toNatClampNeg
    simp only [rgX] at r16
    have r17 : X4.1 12 i0 6 = X.1 12 i0 6 := by simp [e1, u1, up3]
    have r18 := hX4.at1 12 i0 6
    simp only [rgX] at r18
    have r19 : X4.1 14 i0 (p0).toNatClampNeg = X.1 14 i0 (p0).toNatClampNeg := by simp [e1, u1, up3]
    have r20 := hX4.at1 14 i0 (p0).toNatClampNeg
    simp only [rgX] at r20
    have r21 : X4.1 15 i0 (p0).toNatClampNeg = X.1 15 i0 (p0).toNatClampNeg := by simp [e1, u1, up3]
    have r22 := hX4.at1 15 i0 (p0).toNatClampNeg
    simp only [rgX] at r22
    have r23 := hX.at1 12 i0 6
    simp only [rgX] at r23
    have r24 := hX.at1 14 i0 (p0).toNatClampNeg
    simp only [rgX] at r24
    have r25 := hX.at1 15 i0 (p0).toNatClampNeg
    simp only [rgX] at r25
    simp only [rgX]
    grind
  refine ok_gd ?_ (fun g0 => ?_)
  · exact vp_of (by decide) (by grind) (show p0 < (10 : Int32) by grind)
  refine ok_lq (fun X11 e26 => ?_)
  have hX11 : IX X11 := by
    rw [e26]
    refine hX9.u1 ?_
    simp only [rgX]
    grind
  refine ok_gd ?_ (fun g0 => ?_)
  · exact vp_of (by decide) (by grind) (show p0 < (10 : Int32) by grind)
  refine ok_lq (fun X13 e27 => ?_)
  have hX13 : IX X13 := by
    rw [e27]
    refine hX11.u1 ?_
    simp only [rgX]
    grind
  exact ok_some ⟨hX13, trivial⟩
theorem s_X5_takeVote (X : SS) (hX : IX X) (i0 : Nat) (p0 : Int32) (p1 : Int32) (p2 : Int32) : ok (f_X5_takeVote X i0 p0 p1 p2) (fun r => IX r.1 ∧ True) := by
  unfold f_X5_takeVote
  refine ok_gd ?_ (fun g0 => ?_)
  · exact vp_of (by decide) (by grind) (show p0 < (10 : Int32) by grind)
  refine ok_ite (fun q => ?_) (fun q => ?_)
  · have r1 := hX.at1 14 i0 (p0).toNatClampNeg
    simp only [rgX] at r1
    exact s_X5_takeVote_J19 X hX i0 p0 p2 p1 (1 : Int32)
  · have r2 := hX.at1 14 i0 (p0).toNatClampNeg
    simp only [rgX] at r2
    exact s_X5_takeVote_J19 X hX i0 p0 p2 p1 (0 : Int32)
theorem s_X5_styleAbove (X : SS) (hX : IX X) (i0 : Nat) : ok (f_X5_styleAbove X i0) (fun r => True) := by
  unfold f_X5_styleAbove
  refine ok_ite (fun q => ?_) (fun q => ?_)
  · have r1 := hX.at1 12 i0 5
    simp only [rgX] at r1
    exact ok_some trivial
  · have r2 := hX.at1 12 i0 6
    simp only [rgX] at r2
    have r3 := hX.at1 12 i0 5
    simp only [rgX] at r3
    exact ok_some trivial
theorem s_X5_styleUnder (X : SS) (hX : IX X) (i0 : Nat) : ok (f_X5_styleUnder X i0) (fun r => True) := by
  unfold f_X5_styleUnder
  refine ok_ite (fun q => ?_) (fun q => ?_)
  · have r1 := hX.at1 12 i0 5
    simp only [rgX] at r1
    exact ok_some trivial
  · have r2 := hX.at1 12 i0 5
    simp only [rgX] at r2
    exact ok_some trivial
theorem s_X5_hasGreaterStyleThan (X : SS) (hX : IX X) (i0 : Nat) (i1 : Nat) : ok (f_X5_hasGreaterStyleThan X i0 i1) (fun r => True) := by
  unfold f_X5_hasGreaterStyleThan
  refine ok_b0 (s_X5_styleAbove X hX i0) (fun v1 hr => ?_)
  refine ok_b0 (s_X5_styleUnder X hX i1) (fun v3 hr => ?_)
  refine ok_b0 (s_X5_styleAbove X hX i1) (fun v5 hr => ?_)
  refine ok_b0 (s_X5_styleUnder X hX i0) (fun v7 hr => ?_)
  refine ok_ite (fun q => ?_) (fun q => ?_)
  · exact ok_some trivial
  · exact ok_some trivial
theorem s_X6_isOutOfRange (p0 : Int32) : ok (f_X6_isOutOfRange p0) (fun r => True) := by
  unfold f_X6_isOutOfRange
  refine ok_ite (fun q => ?_) (fun q => ?_)
  · exact ok_some trivial
  · refine ok_ite (fun q => ?_) (fun q => ?_)
    · exact ok_some trivial
    · exact ok_some trivial
theorem s_X6_step_J52 (X : SS) (hX : IX X) (v2 : Int32) (p0 : Int32) (p1 : Int32) : ok (f_X6_step_J52 X v2 p0 p1) (fun r => IX r.1 ∧ True) := by
  unfold f_X6_step_J52
  refine ok_ite (fun q => ?_) (fun q => ?_)
  · refine ok_ite (fun q => ?_) (fun q => ?_)
    · have r1 := hX.at1 1 0 2
      simp only [rgX] at r1
      refine ok_b1 (s_X3_append X hX 0 p0 (0 : Int32)) (fun X8 v7 hr => ?_)
      obtain ⟨hX8, w2⟩ := hr
      have r3 := hX8.at1 1 0 2
      simp only [rgX] at r3
      have r4 := hX.at1 1 0 2
      simp only [rgX] at r4
      exact ok_some ⟨hX8, trivial⟩
    · have r5 := hX.at1 1 0 2
      simp only [rgX] at r5
      refine ok_b1 (s_X3_append X hX 0 p0 p1) (fun X11 v10 hr => ?_)
      obtain ⟨hX11, w6⟩ := hr
      have r7 := hX11.at1 1 0 2
      simp only [rgX] at r7
      have r8 := hX.at1 1 0 2
      simp only [rgX] at r8
      exact ok_some ⟨hX11, trivial⟩
  · have r9 := hX.at1 1 0 2
    simp only [rgX] at r9
    exact ok_some ⟨hX, trivial⟩
theorem s_X6_step_J30 (X : SS) (hX : IX X) (p0 : Int32) (p1 : Int32) (v2 : Int32) : ok (f_X6_step_J30 X p0 p1 v2) (fun r => IX r.1 ∧ True) := by
  unfold f_X6_step_J30
  refine ok_ite (fun q => ?_) (fun q => ?_)
  · exact s_X6_step_J52 X hX v2 p0 p1
  · refine ok_b0 (s_X6_isOutOfRange p1) (fun v14 hr => ?_)
    refine ok_ite (fun q => ?_) (fun q => ?_)
    · exact s_X6_step_J52 X hX v2 p0 p1
    · exact ok_some ⟨hX, trivial⟩
theorem s_X6_step (X : SS) (hX : IX X) (p0 : Int32) (p1 : Int32) : ok (f_X6_step X p0 p1) (fun r => IX r.1 ∧ True) := by
  unfold f_X6_step
  refine ok_ite (fun q => ?_) (fun q => ?_)
  · refine ok_ite (fun q => ?_) (fun q => ?_)
    · exact s_X6_step_J30 X hX p0 p1 (1 : Int32)
    · exact s_X6_step_J30 X hX p0 p1 (0 : Int32)
  · exact ok_some ⟨hX, trivial⟩
theorem s_X6_wipe (X : SS) (hX : IX X) : ok (f_X6_wipe X) (fun r => IX r.1 ∧ True) := by
  unfold f_X6_wipe
  refine ok_lq (fun v1 e1 => ?_)
  have r2 := hX.at1 1 0 2
  simp only [rgX] at r2
  refine ok_b1 (s_X3_erase X hX 0) (fun X3 v2 hr => ?_)
  obtain ⟨hX3, w3⟩ := hr
  have r4 := hX.at1 1 0 2
  simp only [rgX] at r4
  exact ok_some ⟨hX3, trivial⟩
theorem s_X6_number_J57 (p1 : Int32) (X : SS) (hX : IX X) (p0 : Int32) : ok (f_X6_number_J57 p1 X p0) (fun r => IX r.1 ∧ True) := by
  unfold f_X6_number_J57
  refine ok_ite (fun q => ?_) (fun q => ?_)
  · refine ok_b1 (s_X4_addInput X hX 40 p0) (fun X7 v6 hr => ?_)
    obtain ⟨hX7, w1⟩ := hr
    exact ok_some ⟨hX7, trivial⟩
  · refine ok_b1 (s_X4_addExpected X hX 40 p0) (fun X10 v9 hr => ?_)
    obtain ⟨hX10, w2⟩ := hr
    exact ok_some ⟨hX10, trivial⟩
theorem s_X6_number (X : SS) (hX : IX X) (p0 : Int32) (p1 : Int32) : ok (f_X6_number X p0 p1) (fun r => IX r.1 ∧ True) := by
  unfold f_X6_number
  refine ok_b0 (s_X6_isOutOfRange p0) (fun v1 hr => ?_)
  refine ok_ite (fun q => ?_) (fun q => ?_)
  · refine ok_ite (fun q => ?_) (fun q => ?_)
    · refine ok_ite (fun q => ?_) (fun q => ?_)
      · have r1 := hX.at1 4 40 2
        simp only [rgX] at r1
        exact s_X6_number_J57 p1 X hX p0
      · have r2 := hX.at1 4 40 2
        simp only [rgX] at r2
        exact ok_some ⟨hX, trivial⟩
    · refine ok_ite (fun q => ?_) (fun q => ?_)
      · have r3 := hX.at1 4 40 3
        simp only [rgX] at r3
        exact s_X6_number_J57 p1 X hX p0
      · have r4 := hX.at1 4 40 3
        simp only [rgX] at r4
        exact ok_some ⟨hX, trivial⟩
  · exact ok_some ⟨hX, trivial⟩
theorem s_X6_clear (X : SS) (hX : IX X) : ok (f_X6_clear X) (fun r => IX r.1 ∧ True) := by
  unfold f_X6_clear
  refine ok_lq (fun v1 e1 => ?_)
  have r2 := hX.at1 4 40 2
  simp only [rgX] at r2
  have r3 := hX.at1 4 40 3
  simp only [rgX] at r3
  refine ok_b1 (s_X4_erase X hX 40) (fun X3 v2 hr => ?_)
  obtain ⟨hX3, w4⟩ := hr
  have r5 := hX.at1 4 40 2
  simp only [rgX] at r5
  have r6 := hX.at1 4 40 3
  simp only [rgX] at r6
  exact ok_some ⟨hX3, trivial⟩
theorem s_X6_kata (X : SS) (hX : IX X) (p0 : Int32) : ok (f_X6_kata X p0) (fun r => IX r.1 ∧ True) := by
  unfold f_X6_kata
  refine ok_ite (fun q => ?_) (fun q => ?_)
  · exact ok_some ⟨hX, trivial⟩
  · refine ok_ite (fun q => ?_) (fun q => ?_)
    · refine ok_ite (fun q => ?_) (fun q => ?_)
      · refine ok_gd ?_ (fun g0 => ?_)
        · have r1 := hX.at1 0 0 9
          simp only [rgX] at r1
          exact vp_of (by decide) (by grind) (show (X.1 0 0 9) < (8 : Int32) by grind)
        refine ok_lq (fun X5 e2 => ?_)
        have hX5 : IX X5 := by
          rw [e2]
          refine hX.u1 ?_
          have r3 := hX.at1 0 0 9
          simp only [rgX] at r3
          simp only [rgX]
          grind
        refine ok_lq (fun X6 e4 => ?_)
        have hX6 : IX X6 := by
          rw [e4]
          refine hX5.u1 ?_
          have r5 : X5.1 0 0 9 = X.1 0 0 9 := by simp [e2, u1, up3]
          have r6 := hX5.at1 0 0 9
          simp only [rgX] at r6
          have r7 := hX.at1 0 0 9
          simp only [rgX] at r7
          simp only [rgX]
          grind
        have r8 : X6.1 0 0 9 = ((X5.1 0 0 9) + (1 : Int32)) := by simp [e4, u1, up3]
        have r9 := hX6.at1 0 0 9
        simp only [rgX] at r9
        have r10 := hX.at1 0 0 9
        simp only [rgX] at r10
        have r11 : X5.1 0 0 9 = X.1 0 0 9 := by simp [e2, u1, up3]
        have r12 := hX5.at1 0 0 9
        simp only [rgX] at r12
        exact ok_some ⟨hX6, trivial⟩
      · have r13 := hX.at1 0 0 9
        simp only [rgX] at r13
        exact ok_some ⟨hX, trivial⟩
    · exact ok_some ⟨hX, trivial⟩
theorem s_X6_kataAt (X : SS) (hX : IX X) (p0 : Int32) : ok (f_X6_kataAt X p0) (fun r => True) := by
  unfold f_X6_kataAt
  refine ok_ite (fun q => ?_) (fun q => ?_)
  · exact ok_some trivial
  · refine ok_ite (fun q => ?_) (fun q => ?_)
    · refine ok_gd ?_ (fun g0 => ?_)
      · have r1 := hX.at1 0 0 9
        simp only [rgX] at r1
        exact vp_of (by decide) (by grind) (show p0 < (8 : Int32) by grind)
      have r2 := hX.at1 0 0 9
      simp only [rgX] at r2
      exact ok_some trivial
    · have r3 := hX.at1 0 0 9
      simp only [rgX] at r3
      exact ok_some trivial
theorem s_X6_testAt (X : SS) (hX : IX X) (i1 : Nat) (p1 : Int32) : ok (f_X6_testAt X i1 p1) (fun r => True) := by
  unfold f_X6_testAt
  refine ok_ite (fun q => ?_) (fun q => ?_)
  · exact ok_some trivial
  · refine ok_ite (fun q => ?_) (fun q => ?_)
    · refine ok_gd ?_ (fun g0 => ?_)
      · have r1 := hX.at1 7 i1 1
        simp only [rgX] at r1
        exact vp_of (by decide) (by grind) (show p1 < (5 : Int32) by grind)
      have r2 := hX.at1 7 i1 1
      simp only [rgX] at r2
      exact ok_some trivial
    · have r3 := hX.at1 7 i1 1
      simp only [rgX] at r3
      exact ok_some trivial
theorem s_X6_lastRun (X : SS) (hX : IX X) : ok (f_X6_lastRun X) (fun r => True) := by
  unfold f_X6_lastRun
  refine ok_ite (fun q => ?_) (fun q => ?_)
  · have r1 := hX.at1 0 0 15
    simp only [rgX] at r1
    exact ok_some trivial
  · have r2 := hX.at1 0 0 15
    simp only [rgX] at r2
    exact ok_some trivial
theorem s_X6_member (X : SS) (hX : IX X) : ok (f_X6_member X) (fun r => IX r.1 ∧ True) := by
  unfold f_X6_member
  refine ok_ite (fun q => ?_) (fun q => ?_)
  · refine ok_lq (fun X2 e1 => ?_)
    have hX2 : IX X2 := by
      rw [e1]
      refine hX.u1 ?_
      have r2 := hX.at1 0 0 10
      simp only [rgX] at r2
      simp only [rgX]
      grind
    have r3 : X2.1 0 0 10 = ((X.1 0 0 10) + (1 : Int32)) := by simp [e1, u1, up3]
    have r4 := hX2.at1 0 0 10
    simp only [rgX] at r4
    have r5 := hX.at1 0 0 10
    simp only [rgX] at r5
    exact ok_some ⟨hX2, trivial⟩
  · have r6 := hX.at1 0 0 10
    simp only [rgX] at r6
    exact ok_some ⟨hX, trivial⟩
theorem s_X6_memberAt (X : SS) (hX : IX X) (p0 : Int32) : ok (f_X6_memberAt X p0) (fun r => True) := by
  unfold f_X6_memberAt
  refine ok_ite (fun q => ?_) (fun q => ?_)
  · exact ok_some trivial
  · refine ok_ite (fun q => ?_) (fun q => ?_)
    · refine ok_gd ?_ (fun g0 => ?_)
      · have r1 := hX.at1 0 0 10
        simp only [rgX] at r1
        exact vp_of (by decide) (by grind) (show p0 < (10 : Int32) by grind)
      have r2 := hX.at1 0 0 10
      simp only [rgX] at r2
      exact ok_some trivial
    · have r3 := hX.at1 0 0 10
      simp only [rgX] at r3
      exact ok_some trivial
theorem s_X6_isDroppedBefore_J30 (v1 : Int32) (X : SS) (hX : IX X) (i2 : Nat) (i1 : Nat) (v3 : Int32) : ok (f_X6_isDroppedBefore_J30 v1 X i2 i1 v3) (fun r => True) := by
  unfold f_X6_isDroppedBefore_J30
  refine ok_ite (fun q => ?_) (fun q => ?_)
  · refine ok_ite (fun q => ?_) (fun q => ?_)
    · have r1 := hX.at1 12 i2 5
      simp only [rgX] at r1
      have r2 := hX.at1 12 i1 5
      simp only [rgX] at r2
      exact ok_some trivial
    · have r3 := hX.at1 12 i2 5
      simp only [rgX] at r3
      have r4 := hX.at1 12 i1 5
      simp only [rgX] at r4
      exact ok_some trivial
  · refine ok_gd ?_ (fun g0 => ?_)
    · grind
    exact ok_some trivial
theorem s_X6_isDroppedBefore_J14 (X : SS) (hX : IX X) (i2 : Nat) (i1 : Nat) (v1 : Int32) : ok (f_X6_isDroppedBefore_J14 X i2 i1 v1) (fun r => True) := by
  unfold f_X6_isDroppedBefore_J14
  refine ok_ite (fun q => ?_) (fun q => ?_)
  · have r1 := hX.at1 12 i2 11
    simp only [rgX] at r1
    exact s_X6_isDroppedBefore_J30 v1 X hX i2 i1 (1 : Int32)
  · have r2 := hX.at1 12 i2 11
    simp only [rgX] at r2
    exact s_X6_isDroppedBefore_J30 v1 X hX i2 i1 (0 : Int32)
theorem s_X6_isDroppedBefore (X : SS) (hX : IX X) (i1 : Nat) (i2 : Nat) : ok (f_X6_isDroppedBefore X i1 i2) (fun r => True) := by
  unfold f_X6_isDroppedBefore
  refine ok_ite (fun q => ?_) (fun q => ?_)
  · have r1 := hX.at1 12 i1 11
    simp only [rgX] at r1
    exact s_X6_isDroppedBefore_J14 X hX i2 i1 (1 : Int32)
  · have r2 := hX.at1 12 i1 11
    simp only [rgX] at r2
    exact s_X6_isDroppedBefore_J14 X hX i2 i1 (0 : Int32)
theorem s_X6_works (X : SS) (hX : IX X) : ok (f_X6_works X) (fun r => True) := by
  unfold f_X6_works
  have r1 := hX.at1 0 0 11
  simp only [rgX] at r1
  exact ok_some trivial
theorem s_X6_workAt (X : SS) (hX : IX X) (p0 : Int32) : ok (f_X6_workAt X p0) (fun r => True) := by
  unfold f_X6_workAt
  refine ok_ite (fun q => ?_) (fun q => ?_)
  · exact ok_some trivial
  · refine ok_ite (fun q => ?_) (fun q => ?_)
    · refine ok_gd ?_ (fun g0 => ?_)
      · have r1 := hX.at1 0 0 11
        simp only [rgX] at r1
        exact vp_of (by decide) (by grind) (show p0 < (40 : Int32) by grind)
      have r2 := hX.at1 0 0 11
      simp only [rgX] at r2
      exact ok_some trivial
    · have r3 := hX.at1 0 0 11
      simp only [rgX] at r3
      exact ok_some trivial
theorem s_X6_isOpenToVoteOf (X : SS) (hX : IX X) (p0 : Int32) (i2 : Nat) : ok (f_X6_isOpenToVoteOf X p0 i2) (fun r => True) := by
  unfold f_X6_isOpenToVoteOf
  refine ok_ite (fun q => ?_) (fun q => ?_)
  · have r1 := hX.at1 12 i2 7
    simp only [rgX] at r1
    exact ok_some trivial
  · refine ok_ite (fun q => ?_) (fun q => ?_)
    · have r2 := hX.at1 12 i2 7
      simp only [rgX] at r2
      have r3 := hX.at1 12 i2 12
      simp only [rgX] at r3
      exact ok_some trivial
    · refine ok_ite (fun q => ?_) (fun q => ?_)
      · have r4 := hX.at1 12 i2 7
        simp only [rgX] at r4
        have r5 := hX.at1 12 i2 12
        simp only [rgX] at r5
        have r6 := hX.at1 12 i2 11
        simp only [rgX] at r6
        exact ok_some trivial
      · have r7 := hX.at1 12 i2 7
        simp only [rgX] at r7
        have r8 := hX.at1 12 i2 12
        simp only [rgX] at r8
        have r9 := hX.at1 12 i2 11
        simp only [rgX] at r9
        exact ok_some trivial
theorem s_X6_style_J36 (p1 : Int32) (v7 : Int32) (v9 : Int32) (v13 : Int32) : ok (f_X6_style_J36 p1 v7 v9 v13) (fun r => True) := by
  unfold f_X6_style_J36
  refine ok_ite (fun q => ?_) (fun q => ?_)
  · refine ok_gd ?_ (fun g0 => ?_)
    · grind
    exact ok_some trivial
  · refine ok_gd ?_ (fun g0 => ?_)
    · grind
    exact ok_some trivial
theorem s_X6_isReviewedBefore (X : SS) (hX : IX X) (i1 : Nat) (i2 : Nat) : ok (f_X6_isReviewedBefore X i1 i2) (fun r => True) := by
  unfold f_X6_isReviewedBefore
  refine ok_ite (fun q => ?_) (fun q => ?_)
  · refine ok_gd ?_ (fun g0 => ?_)
    · have r1 := hX.at1 12 i1 8
      simp only [rgX] at r1
      have r2 := hX.at1 12 i1 4
      simp only [rgX] at r2
      have r3 := hX.at1 12 i2 4
      simp only [rgX] at r3
      exact vp_of (by decide) (by grind) (show (X.1 12 i1 8) < (8 : Int32) by grind)
    refine ok_gd ?_ (fun g0 => ?_)
    · have r4 := hX.at1 12 i2 8
      simp only [rgX] at r4
      have r5 := hX.at1 12 i1 4
      simp only [rgX] at r5
      have r6 := hX.at1 12 i2 4
      simp only [rgX] at r6
      exact vp_of (by decide) (by grind) (show (X.1 12 i2 8) < (8 : Int32) by grind)
    refine ok_ite (fun q => ?_) (fun q => ?_)
    · have r7 := hX.at1 12 i1 4
      simp only [rgX] at r7
      have r8 := hX.at1 12 i2 4
      simp only [rgX] at r8
      have r9 := hX.at1 7 ((X.1 12 i2 8)).toNatClampNeg 2
      simp only [rgX] at r9
      have r10 := hX.at1 7 ((X.1 12 i1 8)).toNatClampNeg 2
      simp only [rgX] at r10
      exact ok_some trivial
    · have r11 := hX.at1 12 i1 4
      simp only [rgX] at r11
      have r12 := hX.at1 12 i2 4
      simp only [rgX] at r12
      have r13 := hX.at1 7 ((X.1 12 i2 8)).toNatClampNeg 2
      simp only [rgX] at r13
      have r14 := hX.at1 7 ((X.1 12 i1 8)).toNatClampNeg 2
      simp only [rgX] at r14
      exact ok_some trivial
  · refine ok_ite (fun q => ?_) (fun q => ?_)
    · have r15 := hX.at1 12 i1 4
      simp only [rgX] at r15
      have r16 := hX.at1 12 i2 4
      simp only [rgX] at r16
      exact ok_some trivial
    · have r17 := hX.at1 12 i1 4
      simp only [rgX] at r17
      have r18 := hX.at1 12 i2 4
      simp only [rgX] at r18
      exact ok_some trivial
theorem s_X6_open (X : SS) (hX : IX X) (p0 : Int32) : ok (f_X6_open X p0) (fun r => True) := by
  unfold f_X6_open
  refine ok_ite (fun q => ?_) (fun q => ?_)
  · exact ok_some trivial
  · refine ok_ite (fun q => ?_) (fun q => ?_)
    · refine ok_gd ?_ (fun g0 => ?_)
      · have r1 := hX.at1 0 0 12
        simp only [rgX] at r1
        exact vp_of (by decide) (by grind) (show p0 < (8 : Int32) by grind)
      have r2 := hX.at1 24 0 (p0).toNatClampNeg
      simp only [rgX] at r2
      have r3 := hX.at1 0 0 12
      simp only [rgX] at r3
      exact ok_some trivial
    · have r4 := hX.at1 0 0 12
      simp only [rgX] at r4
      exact ok_some trivial
theorem s_X7_thrown (M : SS) (hM : IM M) : ok (f_X7_thrown M) (fun r => True) := by
  unfold f_X7_thrown
  have r1 := hM.at1 26 0 9
  simp only [rgM] at r1
  exact ok_some trivial
theorem s_X7_in (p0 : Int32) (p1 : Int32) (p2 : Int32) : ok (f_X7_in p0 p1 p2) (fun r => True) := by
  unfold f_X7_in
  refine ok_ite (fun q => ?_) (fun q => ?_)
  · exact ok_some trivial
  · refine ok_ite (fun q => ?_) (fun q => ?_)
    · exact ok_some trivial
    · exact ok_some trivial
theorem s_X7_fails (M : SS) (hM : IM M) (p0 : Int32) : ok (f_X7_fails M p0) (fun r => IM r.1 ∧ True) := by
  unfold f_X7_fails
  refine ok_lq (fun M1 e1 => ?_)
  have hM1 : IM M1 := by
    rw [e1]
    refine hM.u1 ?_
    simp only [rgM]
    grind
  exact ok_some ⟨hM1, trivial⟩
theorem s_X7_tells (M : SS) (hM : IM M) (p0 : Int32) : ok (f_X7_tells M p0) (fun r => IM r.1 ∧ True) := by
  unfold f_X7_tells
  refine ok_lq (fun M1 e1 => ?_)
  have hM1 : IM M1 := by
    rw [e1]
    refine hM.u1 ?_
    simp only [rgM]
    grind
  exact ok_some ⟨hM1, trivial⟩
theorem s_X7_isOneOf (p0 : Int32) (p1 : Int32) (p2 : Int32) (p3 : Int32) (p4 : Int32) : ok (f_X7_isOneOf p0 p1 p2 p3 p4) (fun r => True) := by
  unfold f_X7_isOneOf
  refine ok_ite (fun q => ?_) (fun q => ?_)
  · exact ok_some trivial
  · refine ok_ite (fun q => ?_) (fun q => ?_)
    · exact ok_some trivial
    · refine ok_ite (fun q => ?_) (fun q => ?_)
      · exact ok_some trivial
      · refine ok_ite (fun q => ?_) (fun q => ?_)
        · exact ok_some trivial
        · exact ok_some trivial
theorem s_X7_isLetter (p0 : Int32) : ok (f_X7_isLetter p0) (fun r => True) := by
  unfold f_X7_isLetter
  refine ok_b0 (s_X7_isOneOf p0 (110 : Int32) (105 : Int32) (43 : Int32) (45 : Int32)) (fun v1 hr => ?_)
  refine ok_ite (fun q => ?_) (fun q => ?_)
  · refine ok_b0 (s_X7_isOneOf p0 (42 : Int32) (37 : Int32) (100 : Int32) (115 : Int32)) (fun v4 hr => ?_)
    refine ok_ite (fun q => ?_) (fun q => ?_)
    · refine ok_b0 (s_X7_isOneOf p0 (112 : Int32) (111 : Int32) (91 : Int32) (93 : Int32)) (fun v7 hr => ?_)
      refine ok_ite (fun q => ?_) (fun q => ?_)
      · exact ok_some trivial
      · exact ok_some trivial
    · exact ok_some trivial
  · exact ok_some trivial
theorem s_X7_step_J84 (M10 : SS) (hM10 : IM M10) (v11 : Int32) : ok (f_X7_step_J84 M10 v11) (fun r => IM r.1 ∧ True) := by
  unfold f_X7_step_J84
  refine ok_gd ?_ (fun g0 => ?_)
  · have r1 := hM10.at1 26 0 0
    simp only [rgM] at r1
    exact vp_of (by decide) (by grind) (show ((960 : Int32) + (M10.1 26 0 0)) < (984 : Int32) by grind)
  refine ok_lq (fun M14 e2 => ?_)
  have hM14 : IM M14 := by
    rw [e2]
    refine hM10.u1 ?_
    simp only [rgM]
    grind
  refine ok_lq (fun M15 e3 => ?_)
  have hM15 : IM M15 := by
    rw [e3]
    refine hM14.u1 ?_
    have r4 : M14.1 26 0 0 = M10.1 26 0 0 := by simp [e2, u1, up3]
    have r5 := hM14.at1 26 0 0
    simp only [rgM] at r5
    have r6 := hM10.at1 26 0 0
    simp only [rgM] at r6
    simp only [rgM]
    grind
  refine ok_lq (fun M16 e7 => ?_)
  have hM16 : IM M16 := by
    rw [e7]
    refine hM15.u1 ?_
    have r8 : M15.1 26 0 0 = ((M14.1 26 0 0) + (1 : Int32)) := by simp [e3, u1, up3]
    have r9 := hM15.at1 26 0 0
    simp only [rgM] at r9
    have r10 : M14.1 26 0 0 = M10.1 26 0 0 := by simp [e2, u1, up3]
    have r11 := hM14.at1 26 0 0
    simp only [rgM] at r11
    have r12 := hM10.at1 26 0 0
    simp only [rgM] at r12
    simp only [rgM]
    grind
  have r13 : M16.1 26 0 0 = M15.1 26 0 0 := by simp [e7, u1, up3]
  have r14 := hM16.at1 26 0 0
  simp only [rgM] at r14
  have r15 : M15.1 26 0 0 = ((M14.1 26 0 0) + (1 : Int32)) := by simp [e3, u1, up3]
  have r16 := hM15.at1 26 0 0
  simp only [rgM] at r16
  have r17 : M14.1 26 0 0 = M10.1 26 0 0 := by simp [e2, u1, up3]
  have r18 := hM14.at1 26 0 0
  simp only [rgM] at r18
  have r19 := hM10.at1 26 0 0
  simp only [rgM] at r19
  refine ok_b1 (s_X7_tells M16 hM16 (M16.1 26 0 0)) (fun M18 v17 hr => ?_)
  obtain ⟨hM18, w20⟩ := hr
  exact ok_some ⟨hM18, trivial⟩
theorem s_X7_step_J32 (M : SS) (hM : IM M) (p0 : Int32) (p1 : Int32) : ok (f_X7_step_J32 M p0 p1) (fun r => IM r.1 ∧ True) := by
  unfold f_X7_step_J32
  refine ok_ite (fun q => ?_) (fun q => ?_)
  · have r1 := hM.at1 26 0 0
    simp only [rgM] at r1
    refine ok_b1 (s_X7_fails M hM (2 : Int32)) (fun M22 v21 hr => ?_)
    obtain ⟨hM22, w2⟩ := hr
    have r3 := hM.at1 26 0 0
    simp only [rgM] at r3
    exact ok_some ⟨hM22, trivial⟩
  · refine ok_gd ?_ (fun g0 => ?_)
    · have r4 := hM.at1 26 0 0
      simp only [rgM] at r4
      exact vp_of (by decide) (by grind) (show ((960 : Int32) + (M.1 26 0 0)) < (984 : Int32) by grind)
    refine ok_lq (fun M10 e5 => ?_)
    have hM10 : IM M10 := by
      rw [e5]
      refine hM.u1 ?_
      have r6 := hM.at1 26 0 0
      simp only [rgM] at r6
      simp only [rgM]
      grind
    refine ok_ite (fun q => ?_) (fun q => ?_)
    · have r7 := hM.at1 26 0 0
      simp only [rgM] at r7
      exact s_X7_step_J84 M10 hM10 p1
    · have r8 := hM.at1 26 0 0
      simp only [rgM] at r8
      exact s_X7_step_J84 M10 hM10 (0 : Int32)
theorem s_X7_step (M : SS) (hM : IM M) (p0 : Int32) (p1 : Int32) : ok (f_X7_step M p0 p1) (fun r => IM r.1 ∧ True) := by
  unfold f_X7_step
  refine ok_b0 (s_X7_isLetter p0) (fun v1 hr => ?_)
  refine ok_ite (fun q => ?_) (fun q => ?_)
  · refine ok_b1 (s_X7_fails M hM (1 : Int32)) (fun M5 v4 hr => ?_)
    obtain ⟨hM5, w1⟩ := hr
    exact ok_some ⟨hM5, trivial⟩
  · refine ok_ite (fun q => ?_) (fun q => ?_)
    · refine ok_b0 (s_X7_in p1 ((-999) : Int32) (999 : Int32)) (fun v25 hr => ?_)
      refine ok_ite (fun q => ?_) (fun q => ?_)
      · refine ok_b1 (s_X7_fails M hM (1 : Int32)) (fun M29 v28 hr => ?_)
        obtain ⟨hM29, w2⟩ := hr
        exact ok_some ⟨hM29, trivial⟩
      · exact s_X7_step_J32 M hM p0 p1
    · exact s_X7_step_J32 M hM p0 p1
theorem s_X7_wipe (M : SS) (hM : IM M) : ok (f_X7_wipe M) (fun r => IM r.1 ∧ True) := by
  unfold f_X7_wipe
  refine ok_lq (fun v1 e1 => ?_)
  refine ok_lq (fun M2 e2 => ?_)
  have hM2 : IM M2 := by
    rw [e2]
    refine hM.u1 ?_
    have r3 := hM.at1 26 0 0
    simp only [rgM] at r3
    simp only [rgM]
    grind
  refine ok_lq (fun M3 e4 => ?_)
  have hM3 : IM M3 := by
    rw [e4]
    refine hM2.u1 ?_
    have r5 := hM.at1 26 0 0
    simp only [rgM] at r5
    simp only [rgM]
    grind
  have r6 := hM.at1 26 0 0
  simp only [rgM] at r6
  refine ok_b1 (s_X7_tells M3 hM3 v1) (fun M5 v4 hr => ?_)
  obtain ⟨hM5, w7⟩ := hr
  have r8 := hM.at1 26 0 0
  simp only [rgM] at r8
  exact ok_some ⟨hM5, trivial⟩
theorem s_X7_number_J49 (p1 : Int32) (M : SS) (hM : IM M) (p0 : Int32) : ok (f_X7_number_J49 p1 M p0) (fun r => IM r.1 ∧ True) := by
  unfold f_X7_number_J49
  refine ok_ite (fun q => ?_) (fun q => ?_)
  · refine ok_gd ?_ (fun g0 => ?_)
    · have r1 := hM.at1 26 0 1
      simp only [rgM] at r1
      exact vp_of (by decide) (by grind) (show (M.1 26 0 1) < (4 : Int32) by grind)
    refine ok_lq (fun M7 e2 => ?_)
    have hM7 : IM M7 := by
      rw [e2]
      refine hM.u1 ?_
      simp only [rgM]
      grind
    refine ok_lq (fun M8 e3 => ?_)
    have hM8 : IM M8 := by
      rw [e3]
      refine hM7.u1 ?_
      have r4 : M7.1 26 0 1 = M.1 26 0 1 := by simp [e2, u1, up3]
      have r5 := hM7.at1 26 0 1
      simp only [rgM] at r5
      have r6 := hM.at1 26 0 1
      simp only [rgM] at r6
      simp only [rgM]
      grind
    have r7 : M8.1 26 0 1 = ((M7.1 26 0 1) + (1 : Int32)) := by simp [e3, u1, up3]
    have r8 := hM8.at1 26 0 1
    simp only [rgM] at r8
    have r9 : M7.1 26 0 1 = M.1 26 0 1 := by simp [e2, u1, up3]
    have r10 := hM7.at1 26 0 1
    simp only [rgM] at r10
    have r11 := hM.at1 26 0 1
    simp only [rgM] at r11
    refine ok_b1 (s_X7_tells M8 hM8 (M8.1 26 0 1)) (fun M10 v9 hr => ?_)
    obtain ⟨hM10, w12⟩ := hr
    exact ok_some ⟨hM10, trivial⟩
  · refine ok_gd ?_ (fun g0 => ?_)
    · have r13 := hM.at1 26 0 2
      simp only [rgM] at r13
      exact vp_of (by decide) (by grind) (show (M.1 26 0 2) < (6 : Int32) by grind)
    refine ok_lq (fun M13 e14 => ?_)
    have hM13 : IM M13 := by
      rw [e14]
      refine hM.u1 ?_
      simp only [rgM]
      grind
    refine ok_lq (fun M14 e15 => ?_)
    have hM14 : IM M14 := by
      rw [e15]
      refine hM13.u1 ?_
      have r16 : M13.1 26 0 2 = M.1 26 0 2 := by simp [e14, u1, up3]
      have r17 := hM13.at1 26 0 2
      simp only [rgM] at r17
      have r18 := hM.at1 26 0 2
      simp only [rgM] at r18
      simp only [rgM]
      grind
    have r19 : M14.1 26 0 2 = ((M13.1 26 0 2) + (1 : Int32)) := by simp [e15, u1, up3]
    have r20 := hM14.at1 26 0 2
    simp only [rgM] at r20
    have r21 : M13.1 26 0 2 = M.1 26 0 2 := by simp [e14, u1, up3]
    have r22 := hM13.at1 26 0 2
    simp only [rgM] at r22
    have r23 := hM.at1 26 0 2
    simp only [rgM] at r23
    refine ok_b1 (s_X7_tells M14 hM14 (M14.1 26 0 2)) (fun M16 v15 hr => ?_)
    obtain ⟨hM16, w24⟩ := hr
    exact ok_some ⟨hM16, trivial⟩
theorem s_X7_number (M : SS) (hM : IM M) (p0 : Int32) (p1 : Int32) : ok (f_X7_number M p0 p1) (fun r => IM r.1 ∧ True) := by
  unfold f_X7_number
  refine ok_b0 (s_X7_in p0 ((-999) : Int32) (999 : Int32)) (fun v1 hr => ?_)
  refine ok_ite (fun q => ?_) (fun q => ?_)
  · refine ok_b1 (s_X7_fails M hM (1 : Int32)) (fun M28 v27 hr => ?_)
    obtain ⟨hM28, w1⟩ := hr
    exact ok_some ⟨hM28, trivial⟩
  · refine ok_ite (fun q => ?_) (fun q => ?_)
    · refine ok_ite (fun q => ?_) (fun q => ?_)
      · have r2 := hM.at1 26 0 1
        simp only [rgM] at r2
        refine ok_b1 (s_X7_fails M hM (2 : Int32)) (fun M21 v20 hr => ?_)
        obtain ⟨hM21, w3⟩ := hr
        have r4 := hM.at1 26 0 1
        simp only [rgM] at r4
        exact ok_some ⟨hM21, trivial⟩
      · have r5 := hM.at1 26 0 1
        simp only [rgM] at r5
        exact s_X7_number_J49 p1 M hM p0
    · refine ok_ite (fun q => ?_) (fun q => ?_)
      · have r6 := hM.at1 26 0 2
        simp only [rgM] at r6
        refine ok_b1 (s_X7_fails M hM (2 : Int32)) (fun M25 v24 hr => ?_)
        obtain ⟨hM25, w7⟩ := hr
        have r8 := hM.at1 26 0 2
        simp only [rgM] at r8
        exact ok_some ⟨hM25, trivial⟩
      · have r9 := hM.at1 26 0 2
        simp only [rgM] at r9
        exact s_X7_number_J49 p1 M hM p0
theorem s_X7_clears (M : SS) (hM : IM M) : ok (f_X7_clears M) (fun r => IM r.1 ∧ True) := by
  unfold f_X7_clears
  refine ok_lq (fun v1 e1 => ?_)
  refine ok_lq (fun M2 e2 => ?_)
  have hM2 : IM M2 := by
    rw [e2]
    refine hM.u1 ?_
    have r3 := hM.at1 26 0 1
    simp only [rgM] at r3
    have r4 := hM.at1 26 0 2
    simp only [rgM] at r4
    simp only [rgM]
    grind
  refine ok_lq (fun M3 e5 => ?_)
  have hM3 : IM M3 := by
    rw [e5]
    refine hM2.u1 ?_
    have r6 := hM.at1 26 0 1
    simp only [rgM] at r6
    have r7 := hM.at1 26 0 2
    simp only [rgM] at r7
    simp only [rgM]
    grind
  have r8 := hM.at1 26 0 1
  simp only [rgM] at r8
  have r9 := hM.at1 26 0 2
  simp only [rgM] at r9
  exact ok_some ⟨hM3, trivial⟩
theorem s_X7_clear (M : SS) (hM : IM M) : ok (f_X7_clear M) (fun r => IM r.1 ∧ True) := by
  unfold f_X7_clear
  refine ok_b1 (s_X7_clears M hM) (fun M2 v1 hr => ?_)
  obtain ⟨hM2, w1⟩ := hr
  refine ok_b1 (s_X7_tells M2 hM2 v1) (fun M5 v4 hr => ?_)
  obtain ⟨hM5, w2⟩ := hr
  exact ok_some ⟨hM5, trivial⟩
theorem s_X7_needs (p0 : Int32) : ok (f_X7_needs p0) (fun r => True) := by
  unfold f_X7_needs
  refine ok_b0 (s_X7_isOneOf p0 (43 : Int32) (45 : Int32) (42 : Int32) (37 : Int32)) (fun v1 hr => ?_)
  refine ok_ite (fun q => ?_) (fun q => ?_)
  · refine ok_ite (fun q => ?_) (fun q => ?_)
    · exact ok_some trivial
    · refine ok_ite (fun q => ?_) (fun q => ?_)
      · exact ok_some trivial
      · refine ok_ite (fun q => ?_) (fun q => ?_)
        · exact ok_some trivial
        · exact ok_some trivial
  · exact ok_some trivial
theorem s_X7_isKata (M : SS) (hM : IM M) (p0 : Int32) : ok (f_X7_isKata M p0) (fun r => True) := by
  unfold f_X7_isKata
  have r1 := hM.at1 26 0 3
  simp only [rgM] at r1
  refine ok_b0 (s_X7_in p0 (0 : Int32) ((M.1 26 0 3) - (1 : Int32))) (fun v1 hr => ?_)
  refine ok_gd ?_ (fun g0 => ?_)
  · grind
  exact ok_some trivial
theorem s_X7_isTest (M : SS) (hM : IM M) (p0 : Int32) (p1 : Int32) : ok (f_X7_isTest M p0 p1) (fun r => True) := by
  unfold f_X7_isTest
  refine ok_b0 (s_X7_isKata M hM p0) (fun v1 hr => ?_)
  refine ok_ite (fun q => ?_) (fun q => ?_)
  · exact ok_some trivial
  · refine ok_gd ?_ (fun g0 => ?_)
    · exact vp_of (by decide) (by grind) (show p0 < (8 : Int32) by grind)
    have r1 := hM.at1 33 0 (p0).toNatClampNeg
    simp only [rgM] at r1
    refine ok_b0 (s_X7_in p1 (0 : Int32) ((M.1 33 0 (p0).toNatClampNeg) - (1 : Int32))) (fun v5 hr => ?_)
    refine ok_ite (fun q => ?_) (fun q => ?_)
    · exact ok_some trivial
    · exact ok_some trivial
theorem s_X7_kata (M : SS) (hM : IM M) (p0 : Int32) : ok (f_X7_kata M p0) (fun r => IM r.1 ∧ True) := by
  unfold f_X7_kata
  refine ok_b0 (s_X7_in p0 (1 : Int32) (5 : Int32)) (fun v1 hr => ?_)
  refine ok_ite (fun q => ?_) (fun q => ?_)
  · refine ok_b1 (s_X7_fails M hM (1 : Int32)) (fun M15 v14 hr => ?_)
    obtain ⟨hM15, w1⟩ := hr
    exact ok_some ⟨hM15, trivial⟩
  · refine ok_ite (fun q => ?_) (fun q => ?_)
    · have r2 := hM.at1 26 0 3
      simp only [rgM] at r2
      refine ok_b1 (s_X7_fails M hM (2 : Int32)) (fun M12 v11 hr => ?_)
      obtain ⟨hM12, w3⟩ := hr
      have r4 := hM.at1 26 0 3
      simp only [rgM] at r4
      exact ok_some ⟨hM12, trivial⟩
    · refine ok_gd ?_ (fun g0 => ?_)
      · have r5 := hM.at1 26 0 3
        simp only [rgM] at r5
        exact vp_of (by decide) (by grind) (show (M.1 26 0 3) < (8 : Int32) by grind)
      refine ok_lq (fun M6 e6 => ?_)
      have hM6 : IM M6 := by
        rw [e6]
        refine hM.u1 ?_
        have r7 := hM.at1 26 0 3
        simp only [rgM] at r7
        simp only [rgM]
        grind
      refine ok_lq (fun M7 e8 => ?_)
      have hM7 : IM M7 := by
        rw [e8]
        refine hM6.u1 ?_
        have r9 : M6.1 26 0 3 = M.1 26 0 3 := by simp [e6, u1, up3]
        have r10 := hM6.at1 26 0 3
        simp only [rgM] at r10
        have r11 := hM.at1 26 0 3
        simp only [rgM] at r11
        simp only [rgM]
        grind
      have r12 : M7.1 26 0 3 = ((M6.1 26 0 3) + (1 : Int32)) := by simp [e8, u1, up3]
      have r13 := hM7.at1 26 0 3
      simp only [rgM] at r13
      have r14 := hM.at1 26 0 3
      simp only [rgM] at r14
      have r15 : M6.1 26 0 3 = M.1 26 0 3 := by simp [e6, u1, up3]
      have r16 := hM6.at1 26 0 3
      simp only [rgM] at r16
      refine ok_b1 (s_X7_tells M7 hM7 ((M7.1 26 0 3) - (1 : Int32))) (fun M9 v8 hr => ?_)
      obtain ⟨hM9, w17⟩ := hr
      have r18 := hM.at1 26 0 3
      simp only [rgM] at r18
      exact ok_some ⟨hM9, trivial⟩
theorem s_X7_tests (M : SS) (hM : IM M) (p0 : Int32) : ok (f_X7_tests M p0) (fun r => IM r.1 ∧ True) := by
  unfold f_X7_tests
  refine ok_b0 (s_X7_isKata M hM p0) (fun v1 hr => ?_)
  refine ok_ite (fun q => ?_) (fun q => ?_)
  · refine ok_b1 (s_X7_fails M hM (1 : Int32)) (fun M5 v4 hr => ?_)
    obtain ⟨hM5, w1⟩ := hr
    exact ok_some ⟨hM5, trivial⟩
  · refine ok_gd ?_ (fun g0 => ?_)
    · exact vp_of (by decide) (by grind) (show p0 < (8 : Int32) by grind)
    have r2 := hM.at1 33 0 (p0).toNatClampNeg
    simp only [rgM] at r2
    refine ok_b1 (s_X7_tells M hM (M.1 33 0 (p0).toNatClampNeg)) (fun M9 v8 hr => ?_)
    obtain ⟨hM9, w3⟩ := hr
    exact ok_some ⟨hM9, trivial⟩
theorem s_X7_done (M : SS) (hM : IM M) : ok (f_X7_done M) (fun r => IM r.1 ∧ True) := by
  unfold f_X7_done
  refine ok_ite (fun q => ?_) (fun q => ?_)
  · have r1 := hM.at1 26 0 41
    simp only [rgM] at r1
    refine ok_b1 (s_X7_fails M hM (1 : Int32)) (fun M3 v2 hr => ?_)
    obtain ⟨hM3, w2⟩ := hr
    have r3 := hM.at1 26 0 41
    simp only [rgM] at r3
    exact ok_some ⟨hM3, trivial⟩
  · have r4 := hM.at1 26 0 44
    simp only [rgM] at r4
    have r5 := hM.at1 26 0 41
    simp only [rgM] at r5
    refine ok_b1 (s_X7_tells M hM (M.1 26 0 44)) (fun M6 v5 hr => ?_)
    obtain ⟨hM6, w6⟩ := hr
    have r7 := hM.at1 26 0 41
    simp only [rgM] at r7
    exact ok_some ⟨hM6, trivial⟩
theorem s_X7_outputs (M : SS) (hM : IM M) : ok (f_X7_outputs M) (fun r => IM r.1 ∧ True) := by
  unfold f_X7_outputs
  refine ok_ite (fun q => ?_) (fun q => ?_)
  · have r1 := hM.at1 26 0 41
    simp only [rgM] at r1
    refine ok_b1 (s_X7_fails M hM (1 : Int32)) (fun M3 v2 hr => ?_)
    obtain ⟨hM3, w2⟩ := hr
    have r3 := hM.at1 26 0 41
    simp only [rgM] at r3
    exact ok_some ⟨hM3, trivial⟩
  · have r4 := hM.at1 26 0 43
    simp only [rgM] at r4
    have r5 := hM.at1 26 0 41
    simp only [rgM] at r5
    refine ok_b1 (s_X7_tells M hM (M.1 26 0 43)) (fun M6 v5 hr => ?_)
    obtain ⟨hM6, w6⟩ := hr
    have r7 := hM.at1 26 0 41
    simp only [rgM] at r7
    exact ok_some ⟨hM6, trivial⟩
theorem s_X7_output (M : SS) (hM : IM M) (p0 : Int32) : ok (f_X7_output M p0) (fun r => IM r.1 ∧ True) := by
  unfold f_X7_output
  refine ok_ite (fun q => ?_) (fun q => ?_)
  · have r1 := hM.at1 26 0 41
    simp only [rgM] at r1
    refine ok_b1 (s_X7_fails M hM (1 : Int32)) (fun M3 v2 hr => ?_)
    obtain ⟨hM3, w2⟩ := hr
    have r3 := hM.at1 26 0 41
    simp only [rgM] at r3
    exact ok_some ⟨hM3, trivial⟩
  · have r4 := hM.at1 26 0 43
    simp only [rgM] at r4
    have r5 := hM.at1 26 0 41
    simp only [rgM] at r5
    refine ok_b0 (s_X7_in p0 (0 : Int32) ((M.1 26 0 43) - (1 : Int32))) (fun v5 hr => ?_)
    refine ok_ite (fun q => ?_) (fun q => ?_)
    · have r6 := hM.at1 26 0 41
      simp only [rgM] at r6
      refine ok_b1 (s_X7_fails M hM (1 : Int32)) (fun M9 v8 hr => ?_)
      obtain ⟨hM9, w7⟩ := hr
      have r8 := hM.at1 26 0 41
      simp only [rgM] at r8
      exact ok_some ⟨hM9, trivial⟩
    · refine ok_gd ?_ (fun g0 => ?_)
      · have r9 := hM.at1 26 0 41
        simp only [rgM] at r9
        exact vp_of (by decide) (by grind) (show p0 < (6 : Int32) by grind)
      have r10 := hM.at1 55 0 (p0).toNatClampNeg
      simp only [rgM] at r10
      have r11 := hM.at1 26 0 41
      simp only [rgM] at r11
      refine ok_b1 (s_X7_tells M hM (M.1 55 0 (p0).toNatClampNeg)) (fun M13 v12 hr => ?_)
      obtain ⟨hM13, w12⟩ := hr
      have r13 := hM.at1 26 0 41
      simp only [rgM] at r13
      exact ok_some ⟨hM13, trivial⟩
theorem s_X7_depth (M : SS) (hM : IM M) : ok (f_X7_depth M) (fun r => IM r.1 ∧ True) := by
  unfold f_X7_depth
  refine ok_ite (fun q => ?_) (fun q => ?_)
  · have r1 := hM.at1 26 0 41
    simp only [rgM] at r1
    refine ok_b1 (s_X7_fails M hM (1 : Int32)) (fun M3 v2 hr => ?_)
    obtain ⟨hM3, w2⟩ := hr
    have r3 := hM.at1 26 0 41
    simp only [rgM] at r3
    exact ok_some ⟨hM3, trivial⟩
  · have r4 := hM.at1 26 0 42
    simp only [rgM] at r4
    have r5 := hM.at1 26 0 41
    simp only [rgM] at r5
    refine ok_b1 (s_X7_tells M hM (M.1 26 0 42)) (fun M6 v5 hr => ?_)
    obtain ⟨hM6, w6⟩ := hr
    have r7 := hM.at1 26 0 41
    simp only [rgM] at r7
    exact ok_some ⟨hM6, trivial⟩
theorem s_X7_isMember (M : SS) (hM : IM M) (p0 : Int32) : ok (f_X7_isMember M p0) (fun r => True) := by
  unfold f_X7_isMember
  have r1 := hM.at1 26 0 4
  simp only [rgM] at r1
  refine ok_b0 (s_X7_in p0 (0 : Int32) ((M.1 26 0 4) - (1 : Int32))) (fun v1 hr => ?_)
  refine ok_gd ?_ (fun g0 => ?_)
  · grind
  exact ok_some trivial
theorem s_X7_isWork (M : SS) (hM : IM M) (p0 : Int32) : ok (f_X7_isWork M p0) (fun r => True) := by
  unfold f_X7_isWork
  have r1 := hM.at1 26 0 5
  simp only [rgM] at r1
  refine ok_b0 (s_X7_in p0 (0 : Int32) ((M.1 26 0 5) - (1 : Int32))) (fun v1 hr => ?_)
  refine ok_gd ?_ (fun g0 => ?_)
  · grind
  exact ok_some trivial
theorem s_X7_member (M : SS) (hM : IM M) : ok (f_X7_member M) (fun r => IM r.1 ∧ True) := by
  unfold f_X7_member
  refine ok_ite (fun q => ?_) (fun q => ?_)
  · have r1 := hM.at1 26 0 4
    simp only [rgM] at r1
    refine ok_b1 (s_X7_fails M hM (1 : Int32)) (fun M9 v8 hr => ?_)
    obtain ⟨hM9, w2⟩ := hr
    have r3 := hM.at1 26 0 4
    simp only [rgM] at r3
    exact ok_some ⟨hM9, trivial⟩
  · refine ok_gd ?_ (fun g0 => ?_)
    · have r4 := hM.at1 26 0 4
      simp only [rgM] at r4
      exact vp_of (by decide) (by grind) (show (M.1 26 0 4) < (10 : Int32) by grind)
    refine ok_lq (fun M3 e5 => ?_)
    have hM3 : IM M3 := by
      rw [e5]
      refine hM.u1 ?_
      have r6 := hM.at1 26 0 4
      simp only [rgM] at r6
      simp only [rgM]
      grind
    refine ok_lq (fun M4 e7 => ?_)
    have hM4 : IM M4 := by
      rw [e7]
      refine hM3.u1 ?_
      have r8 : M3.1 26 0 4 = M.1 26 0 4 := by simp [e5, u1, up3]
      have r9 := hM3.at1 26 0 4
      simp only [rgM] at r9
      have r10 := hM.at1 26 0 4
      simp only [rgM] at r10
      simp only [rgM]
      grind
    have r11 : M4.1 26 0 4 = ((M3.1 26 0 4) + (1 : Int32)) := by simp [e7, u1, up3]
    have r12 := hM4.at1 26 0 4
    simp only [rgM] at r12
    have r13 := hM.at1 26 0 4
    simp only [rgM] at r13
    have r14 : M3.1 26 0 4 = M.1 26 0 4 := by simp [e5, u1, up3]
    have r15 := hM3.at1 26 0 4
    simp only [rgM] at r15
    refine ok_b1 (s_X7_tells M4 hM4 ((M4.1 26 0 4) - (1 : Int32))) (fun M6 v5 hr => ?_)
    obtain ⟨hM6, w16⟩ := hr
    have r17 := hM.at1 26 0 4
    simp only [rgM] at r17
    exact ok_some ⟨hM6, trivial⟩
theorem s_X7_works (M : SS) (hM : IM M) : ok (f_X7_works M) (fun r => IM r.1 ∧ True) := by
  unfold f_X7_works
  have r1 := hM.at1 26 0 5
  simp only [rgM] at r1
  refine ok_b1 (s_X7_tells M hM (M.1 26 0 5)) (fun M2 v1 hr => ?_)
  obtain ⟨hM2, w2⟩ := hr
  exact ok_some ⟨hM2, trivial⟩
theorem s_X7_state_J14 (M : SS) (hM : IM M) (p0 : Int32) (v3 : Int32) : ok (f_X7_state_J14 M p0 v3) (fun r => IM r.1 ∧ True) := by
  unfold f_X7_state_J14
  refine ok_lq (fun M5 e1 => ?_)
  have hM5 : IM M5 := by
    rw [e1]
    refine hM.u1 ?_
    simp only [rgM]
    grind
  refine ok_ite (fun q => ?_) (fun q => ?_)
  · refine ok_gd ?_ (fun g0 => ?_)
    · have r2 : M5.1 26 0 9 = v3 := by simp [e1, u1, up3]
      have r3 := hM5.at1 26 0 9
      simp only [rgM] at r3
      exact vp_of (by decide) (by grind) (show p0 < (40 : Int32) by grind)
    refine ok_gd ?_ (fun g0 => ?_)
    · have r4 : M5.1 42 0 (p0).toNatClampNeg = M.1 42 0 (p0).toNatClampNeg := by simp [e1, u1, up3]
      have r5 := hM5.at1 42 0 (p0).toNatClampNeg
      simp only [rgM] at r5
      have r6 : M5.1 26 0 9 = v3 := by simp [e1, u1, up3]
      have r7 := hM5.at1 26 0 9
      simp only [rgM] at r7
      have r8 := hM.at1 42 0 (p0).toNatClampNeg
      simp only [rgM] at r8
      exact okc_of (by grind) (by grind)
    have r9 : M5.1 42 0 (p0).toNatClampNeg = M.1 42 0 (p0).toNatClampNeg := by simp [e1, u1, up3]
    have r10 := hM5.at1 42 0 (p0).toNatClampNeg
    simp only [rgM] at r10
    have r11 : M5.1 26 0 9 = v3 := by simp [e1, u1, up3]
    have r12 := hM5.at1 26 0 9
    simp only [rgM] at r12
    have r13 := hM.at1 42 0 (p0).toNatClampNeg
    simp only [rgM] at r13
    exact ok_some ⟨hM5, trivial⟩
  · have r14 : M5.1 26 0 9 = v3 := by simp [e1, u1, up3]
    have r15 := hM5.at1 26 0 9
    simp only [rgM] at r15
    exact ok_some ⟨hM5, trivial⟩
theorem s_X7_state (M : SS) (hM : IM M) (p0 : Int32) : ok (f_X7_state M p0) (fun r => IM r.1 ∧ True) := by
  unfold f_X7_state
  refine ok_b0 (s_X7_isWork M hM p0) (fun v1 hr => ?_)
  refine ok_ite (fun q => ?_) (fun q => ?_)
  · exact s_X7_state_J14 M hM p0 (1 : Int32)
  · exact s_X7_state_J14 M hM p0 (0 : Int32)
theorem s_X7_sum_J14 (M : SS) (hM : IM M) (p0 : Int32) (v3 : Int32) : ok (f_X7_sum_J14 M p0 v3) (fun r => IM r.1 ∧ True) := by
  unfold f_X7_sum_J14
  refine ok_lq (fun M5 e1 => ?_)
  have hM5 : IM M5 := by
    rw [e1]
    refine hM.u1 ?_
    simp only [rgM]
    grind
  refine ok_ite (fun q => ?_) (fun q => ?_)
  · refine ok_gd ?_ (fun g0 => ?_)
    · have r2 : M5.1 26 0 9 = v3 := by simp [e1, u1, up3]
      have r3 := hM5.at1 26 0 9
      simp only [rgM] at r3
      exact vp_of (by decide) (by grind) (show p0 < (40 : Int32) by grind)
    have r4 : M5.1 26 0 9 = v3 := by simp [e1, u1, up3]
    have r5 := hM5.at1 26 0 9
    simp only [rgM] at r5
    exact ok_some ⟨hM5, trivial⟩
  · have r6 : M5.1 26 0 9 = v3 := by simp [e1, u1, up3]
    have r7 := hM5.at1 26 0 9
    simp only [rgM] at r7
    exact ok_some ⟨hM5, trivial⟩
theorem s_X7_sum (M : SS) (hM : IM M) (p0 : Int32) : ok (f_X7_sum M p0) (fun r => IM r.1 ∧ True) := by
  unfold f_X7_sum
  refine ok_b0 (s_X7_isWork M hM p0) (fun v1 hr => ?_)
  refine ok_ite (fun q => ?_) (fun q => ?_)
  · exact s_X7_sum_J14 M hM p0 (1 : Int32)
  · exact s_X7_sum_J14 M hM p0 (0 : Int32)
theorem s_X7_hasBody_J14 (M : SS) (hM : IM M) (p0 : Int32) (v3 : Int32) : ok (f_X7_hasBody_J14 M p0 v3) (fun r => IM r.1 ∧ True) := by
  unfold f_X7_hasBody_J14
  refine ok_lq (fun M5 e1 => ?_)
  have hM5 : IM M5 := by
    rw [e1]
    refine hM.u1 ?_
    simp only [rgM]
    grind
  refine ok_ite (fun q => ?_) (fun q => ?_)
  · refine ok_gd ?_ (fun g0 => ?_)
    · have r2 : M5.1 26 0 9 = v3 := by simp [e1, u1, up3]
      have r3 := hM5.at1 26 0 9
      simp only [rgM] at r3
      exact vp_of (by decide) (by grind) (show p0 < (40 : Int32) by grind)
    refine ok_ite (fun q => ?_) (fun q => ?_)
    · have r4 : M5.1 26 0 9 = v3 := by simp [e1, u1, up3]
      have r5 := hM5.at1 26 0 9
      simp only [rgM] at r5
      have r6 : M5.1 43 0 (p0).toNatClampNeg = M.1 43 0 (p0).toNatClampNeg := by simp [e1, u1, up3]
      have r7 := hM5.at1 43 0 (p0).toNatClampNeg
      simp only [rgM] at r7
      have r8 := hM.at1 43 0 (p0).toNatClampNeg
      simp only [rgM] at r8
      exact ok_some ⟨hM5, trivial⟩
    · have r9 : M5.1 26 0 9 = v3 := by simp [e1, u1, up3]
      have r10 := hM5.at1 26 0 9
      simp only [rgM] at r10
      have r11 : M5.1 43 0 (p0).toNatClampNeg = M.1 43 0 (p0).toNatClampNeg := by simp [e1, u1, up3]
      have r12 := hM5.at1 43 0 (p0).toNatClampNeg
      simp only [rgM] at r12
      have r13 := hM.at1 43 0 (p0).toNatClampNeg
      simp only [rgM] at r13
      exact ok_some ⟨hM5, trivial⟩
  · have r14 : M5.1 26 0 9 = v3 := by simp [e1, u1, up3]
    have r15 := hM5.at1 26 0 9
    simp only [rgM] at r15
    exact ok_some ⟨hM5, trivial⟩
theorem s_X7_hasBody (M : SS) (hM : IM M) (p0 : Int32) : ok (f_X7_hasBody M p0) (fun r => IM r.1 ∧ True) := by
  unfold f_X7_hasBody
  refine ok_b0 (s_X7_isWork M hM p0) (fun v1 hr => ?_)
  refine ok_ite (fun q => ?_) (fun q => ?_)
  · exact s_X7_hasBody_J14 M hM p0 (1 : Int32)
  · exact s_X7_hasBody_J14 M hM p0 (0 : Int32)
theorem s_X7_letter_J43 (M : SS) (hM : IM M) (p0 : Int32) (p1 : Int32) (v3 : Int32) : ok (f_X7_letter_J43 M p0 p1 v3) (fun r => IM r.1 ∧ True) := by
  unfold f_X7_letter_J43
  refine ok_lq (fun M5 e1 => ?_)
  have hM5 : IM M5 := by
    rw [e1]
    refine hM.u1 ?_
    simp only [rgM]
    grind
  refine ok_ite (fun q => ?_) (fun q => ?_)
  · refine ok_gd ?_ (fun g0 => ?_)
    · have r2 : M5.1 26 0 9 = v3 := by simp [e1, u1, up3]
      have r3 := hM5.at1 26 0 9
      simp only [rgM] at r3
      exact vp_of (by decide) (by grind) (show (((24 : Int32) * p0) + p1) < (984 : Int32) by grind)
    refine ok_gd ?_ (fun g0 => ?_)
    · have r4 : M5.1 26 0 9 = v3 := by simp [e1, u1, up3]
      have r5 := hM5.at1 26 0 9
      simp only [rgM] at r5
      exact okc_of (by grind) (by grind)
    have r6 : M5.1 26 0 9 = v3 := by simp [e1, u1, up3]
    have r7 := hM5.at1 26 0 9
    simp only [rgM] at r7
    exact ok_some ⟨hM5, trivial⟩
  · have r8 : M5.1 26 0 9 = v3 := by simp [e1, u1, up3]
    have r9 := hM5.at1 26 0 9
    simp only [rgM] at r9
    exact ok_some ⟨hM5, trivial⟩
theorem s_X7_letter_J38 (M : SS) (hM : IM M) (p0 : Int32) (p1 : Int32) : ok (f_X7_letter_J38 M p0 p1) (fun r => IM r.1 ∧ True) := by
  unfold f_X7_letter_J38
  exact s_X7_letter_J43 M hM p0 p1 (2 : Int32)
theorem s_X7_letter (M : SS) (hM : IM M) (p0 : Int32) (p1 : Int32) : ok (f_X7_letter M p0 p1) (fun r => IM r.1 ∧ True) := by
  unfold f_X7_letter
  refine ok_b0 (s_X7_isWork M hM p0) (fun v1 hr => ?_)
  refine ok_ite (fun q => ?_) (fun q => ?_)
  · exact s_X7_letter_J43 M hM p0 p1 (1 : Int32)
  · refine ok_gd ?_ (fun g0 => ?_)
    · exact vp_of (by decide) (by grind) (show p0 < (40 : Int32) by grind)
    refine ok_ite (fun q => ?_) (fun q => ?_)
    · have r1 := hM.at1 43 0 (p0).toNatClampNeg
      simp only [rgM] at r1
      exact s_X7_letter_J38 M hM p0 p1
    · refine ok_gd ?_ (fun g0 => ?_)
      · have r2 := hM.at1 43 0 (p0).toNatClampNeg
        simp only [rgM] at r2
        exact vp_of (by decide) (by grind) (show p0 < (41 : Int32) by grind)
      have r3 := hM.at1 29 0 (p0).toNatClampNeg
      simp only [rgM] at r3
      have r4 := hM.at1 43 0 (p0).toNatClampNeg
      simp only [rgM] at r4
      refine ok_b0 (s_X7_in p1 (0 : Int32) ((M.1 29 0 (p0).toNatClampNeg) - (1 : Int32))) (fun v14 hr => ?_)
      refine ok_ite (fun q => ?_) (fun q => ?_)
      · have r5 := hM.at1 43 0 (p0).toNatClampNeg
        simp only [rgM] at r5
        exact s_X7_letter_J38 M hM p0 p1
      · have r6 := hM.at1 43 0 (p0).toNatClampNeg
        simp only [rgM] at r6
        exact s_X7_letter_J43 M hM p0 p1 (0 : Int32)
theorem s_X7_counts (M : SS) (hM : IM M) (p0 : Int32) : ok (f_X7_counts M p0) (fun r => True) := by
  unfold f_X7_counts
  refine ok_gd ?_ (fun g0 => ?_)
  · exact vp_of (by decide) (by grind) (show p0 < (40 : Int32) by grind)
  refine ok_ite (fun q => ?_) (fun q => ?_)
  · have r1 := hM.at1 42 0 (p0).toNatClampNeg
    simp only [rgM] at r1
    exact ok_some trivial
  · refine ok_gd ?_ (fun g0 => ?_)
    · have r2 := hM.at1 42 0 (p0).toNatClampNeg
      simp only [rgM] at r2
      exact vp_of (by decide) (by grind) (show p0 < (40 : Int32) by grind)
    refine ok_ite (fun q => ?_) (fun q => ?_)
    · have r3 := hM.at1 42 0 (p0).toNatClampNeg
      simp only [rgM] at r3
      exact ok_some trivial
    · refine ok_gd ?_ (fun g0 => ?_)
      · have r4 := hM.at1 42 0 (p0).toNatClampNeg
        simp only [rgM] at r4
        exact vp_of (by decide) (by grind) (show p0 < (40 : Int32) by grind)
      refine ok_ite (fun q => ?_) (fun q => ?_)
      · have r5 := hM.at1 42 0 (p0).toNatClampNeg
        simp only [rgM] at r5
        exact ok_some trivial
      · have r6 := hM.at1 42 0 (p0).toNatClampNeg
        simp only [rgM] at r6
        exact ok_some trivial
theorem s_X7_isGreater_J73 (v11 : Int32) (v7 : Int32) (v3 : Int32) (v15 : Int32) : ok (f_X7_isGreater_J73 v11 v7 v3 v15) (fun r => True) := by
  unfold f_X7_isGreater_J73
  refine ok_ite (fun q => ?_) (fun q => ?_)
  · exact ok_some trivial
  · exact ok_some trivial
theorem s_X7_honour (M : SS) (hM : IM M) (p0 : Int32) : ok (f_X7_honour M p0) (fun r => IM r.1 ∧ True) := by
  unfold f_X7_honour
  refine ok_b0 (s_X7_isMember M hM p0) (fun v1 hr => ?_)
  refine ok_ite (fun q => ?_) (fun q => ?_)
  · refine ok_b1 (s_X7_fails M hM (1 : Int32)) (fun M5 v4 hr => ?_)
    obtain ⟨hM5, w1⟩ := hr
    exact ok_some ⟨hM5, trivial⟩
  · refine ok_gd ?_ (fun g0 => ?_)
    · exact vp_of (by decide) (by grind) (show p0 < (10 : Int32) by grind)
    have r2 := hM.at1 51 0 (p0).toNatClampNeg
    simp only [rgM] at r2
    refine ok_b1 (s_X7_tells M hM (M.1 51 0 (p0).toNatClampNeg)) (fun M9 v8 hr => ?_)
    obtain ⟨hM9, w3⟩ := hr
    exact ok_some ⟨hM9, trivial⟩
theorem s_X7_left (M : SS) (hM : IM M) (p0 : Int32) : ok (f_X7_left M p0) (fun r => IM r.1 ∧ True) := by
  unfold f_X7_left
  refine ok_b0 (s_X7_isWork M hM p0) (fun v1 hr => ?_)
  refine ok_ite (fun q => ?_) (fun q => ?_)
  · refine ok_b1 (s_X7_fails M hM (1 : Int32)) (fun M14 v13 hr => ?_)
    obtain ⟨hM14, w1⟩ := hr
    exact ok_some ⟨hM14, trivial⟩
  · refine ok_gd ?_ (fun g0 => ?_)
    · exact vp_of (by decide) (by grind) (show p0 < (40 : Int32) by grind)
    refine ok_ite (fun q => ?_) (fun q => ?_)
    · refine ok_gd ?_ (fun g0 => ?_)
      · have r2 := hM.at1 42 0 (p0).toNatClampNeg
        simp only [rgM] at r2
        exact vp_of (by decide) (by grind) (show p0 < (40 : Int32) by grind)
      have r3 := hM.at1 49 0 (p0).toNatClampNeg
      simp only [rgM] at r3
      have r4 := hM.at1 42 0 (p0).toNatClampNeg
      simp only [rgM] at r4
      refine ok_b1 (s_X7_tells M hM (M.1 49 0 (p0).toNatClampNeg)) (fun M11 v10 hr => ?_)
      obtain ⟨hM11, w5⟩ := hr
      have r6 := hM.at1 42 0 (p0).toNatClampNeg
      simp only [rgM] at r6
      exact ok_some ⟨hM11, trivial⟩
    · have r7 := hM.at1 42 0 (p0).toNatClampNeg
      simp only [rgM] at r7
      refine ok_b1 (s_X7_fails M hM (2 : Int32)) (fun M7 v6 hr => ?_)
      obtain ⟨hM7, w8⟩ := hr
      have r9 := hM.at1 42 0 (p0).toNatClampNeg
      simp only [rgM] at r9
      exact ok_some ⟨hM7, trivial⟩
theorem s_X7_isSound (M : SS) (hM : IM M) : ok (f_X7_isSound M) (fun r => IM r.1 ∧ True) := by
  unfold f_X7_isSound
  refine ok_lq (fun M1 e1 => ?_)
  have hM1 : IM M1 := by
    rw [e1]
    refine hM.u1 ?_
    simp only [rgM]
    grind
  exact ok_some ⟨hM1, trivial⟩
theorem whole_pure {L : Nat} {xs : Nat → Int32} (hL : L ≤ 2048) : f_law xs L 1000 0 S0 S0 S0 = some () := sorry
