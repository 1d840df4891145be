/-! what a form gives: it is some, and so -/
def ok {α : Type} (t : Option α) (P : α → Prop) : Prop := ∃ r, t = some r ∧ P r
theorem ok_ite {α : Type} {q : Prop} [Decidable q] {a b : Option α} {P : α → Prop} (h1 : q → ok a P) (h2 : ¬ q → ok b P) : ok (if q then a else b) P := by
  split
  · exact h1 (by assumption)
  · exact h2 (by assumption)
theorem ok_gd {α : Type} {q : Prop} {t : Option α} {P : α → Prop} (h : q) (h2 : q → ok t P) : ok (gd q t) P := by
  rw [gd_t h]
  exact h2 h
theorem ok_lq {α β : Type} {a : α} {k : α → Option β} {P : β → Prop} (h : ∀ x, x = a → ok (k x) P) : ok (lq a k) P := h a rfl
theorem ok_some {α : Type} {r : α} {P : α → Prop} (h : P r) : ok (some r) P := ⟨r, rfl, h⟩
theorem ok_b0 {α β : Type} {t : Option α} {k : α → Option β} {P : α → Prop} {P2 : β → Prop} (h : ok t P) (h2 : ∀ v, P v → ok (k v) P2) : ok (b0 t k) P2 := by
  obtain ⟨r, e, hp⟩ := h
  subst e
  exact h2 r hp
theorem ok_b1 {α β : Type} {t : Option (SS × α)} {k : SS → α → Option β} {P : SS × α → Prop} {P2 : β → Prop} (h : ok t P) (h2 : ∀ X v, P (X, v) → ok (k X v) P2) : ok (b1 t k) P2 := by
  obtain ⟨r, e, hp⟩ := h
  subst e
  exact h2 r.1 r.2 hp
theorem ok_b2 {α β : Type} {t : Option (SS × SS × α)} {k : SS → SS → α → Option β} {P : SS × SS × α → Prop} {P2 : β → Prop} (h : ok t P) (h2 : ∀ X Y v, P (X, Y, v) → ok (k X Y v) P2) : ok (b2 t k) P2 := by
  obtain ⟨r, e, hp⟩ := h
  subst e
  exact h2 r.1 r.2.1 r.2.2 hp
theorem ok_e0 {α β : Type} {t : Option (α ⊕ String)} {k : α → Option β} {ke : String → Option β} {P : α ⊕ String → Prop} {P2 : β → Prop} (h : ok t P) (h2 : ∀ v, P (.inl v) → ok (k v) P2) (h3 : ∀ E, P (.inr E) → ok (ke E) P2) : ok (e0 t k ke) P2 := by
  obtain ⟨r, e, hp⟩ := h
  subst e
  cases r with
  | inl v => exact h2 v hp
  | inr E => exact h3 E hp
theorem ok_e1 {α β : Type} {t : Option (SS × (α ⊕ String))} {k : SS → α → Option β} {ke : SS → String → Option β} {P : SS × (α ⊕ String) → Prop} {P2 : β → Prop} (h : ok t P) (h2 : ∀ X v, P (X, .inl v) → ok (k X v) P2) (h3 : ∀ X E, P (X, .inr E) → ok (ke X E) P2) : ok (e1 t k ke) P2 := by
  obtain ⟨⟨X, o⟩, e, hp⟩ := h
  subst e
  cases o with
  | inl v => exact h2 X v hp
  | inr E => exact h3 X E hp
theorem ok_imp {α : Type} {t : Option α} {P Q : α → Prop} (h : ok t P) (h2 : ∀ r, P r → Q r) : ok t Q := by
  obtain ⟨r, e, hp⟩ := h
  exact ⟨r, e, h2 r hp⟩
theorem vp_of {x : Int32} {n : Nat} (hn : n < 2 ^ 31) (h0 : 0 ≤ x) (h : x < nI n) : vp_in x n := by
  rw [vp_in_iff]
  have h1 := Int32.le_iff_toInt_le.mp h0
  have h2 := Int32.lt_iff_toInt_lt.mp h
  rw [nI_toInt hn] at h2
  have h3 : (0 : Int32).toInt = 0 := rfl
  omega
theorem okc_of {x : Int32} (h0 : 0 ≤ x) (h : x < 65536) : okc x := by
  obtain ⟨j, hj, rfl⟩ := nI_of (x := x) (by grind)
  have h2 := Int32.lt_iff_toInt_lt.mp h
  rw [nI_toInt hj] at h2
  have h3 : (65536 : Int32).toInt = 65536 := rfl
  have hq : j < 65536 := by omega
  exact ⟨(pk_charN hq).1, (pk_charN hq).2⟩
theorem px3 (X : SS) (k : Int32) (hk : 0 ≤ X.1 0 0 9 ∧ X.1 0 0 9 ≤ 8) : ok (f_X6_kataAt X k) (fun o => (o = .inr "java/lang/IndexOutOfBoundsException" ∧ ¬ (0 ≤ k ∧ k < X.1 0 0 9)) ∨ ∃ i, o = .inl i ∧ i < 8 ∧ 0 ≤ k ∧ k < X.1 0 0 9) := by
  unfold f_X6_kataAt
  refine ok_ite (fun c1 => ok_some (Or.inl ⟨rfl, by grind⟩)) (fun c1 => ok_ite (fun c2 => ok_gd (vp_of (by decide) (by grind) (show k < (8 : Int32) by grind)) (fun hg => ok_some (Or.inr ⟨_, rfl, vp_lt hg, by grind, c2⟩))) (fun c2 => ok_some (Or.inl ⟨rfl, by grind⟩)))
theorem whole_pure {L : Nat} {xs : Nat → Int32} (hL : L ≤ 2048) : f_law xs L 1000 0 S0 S0 S0 = some () := sorry
