/-! small rows on the binds -/
theorem b0_some {α β : Type} (v : α) (k : α → Option β) : b0 (some v) k = k v := rfl
theorem b1_some {α β : Type} (X : SS) (v : α) (k : SS → α → Option β) : b1 (some (X, v)) k = k X v := rfl
theorem e0_inl {α β : Type} (v : α) (k : α → Option β) (ke : String → Option β) : e0 (some (.inl v)) k ke = k v := rfl
theorem e0_inr {α β : Type} (E : String) (k : α → Option β) (ke : String → Option β) : e0 (some (.inr E)) k ke = ke E := rfl
theorem lq_e {α β : Type} (a : α) (k : α → Option β) : lq a k = k a := rfl
theorem ok_eq {α : Type} {t : Option α} {r : α} (e : t = some r) : ok t (fun q => q = r) := ⟨r, e, rfl⟩
theorem ok_b0e {α β : Type} {t : Option α} {k : α → Option β} {P : β → Prop} {v : α} (e : t = some v) (h : ok (k v) P) : ok (b0 t k) P := by
  subst e
  exact h
theorem ok_b1e {α β : Type} {t : Option (SS × α)} {k : SS → α → Option β} {P : β → Prop} {X : SS} {v : α} (e : t = some (X, v)) (h : ok (k X v) P) : ok (b1 t k) P := by
  subst e
  exact h
theorem ok_b2e {α β : Type} {t : Option (SS × SS × α)} {k : SS → SS → α → Option β} {P : β → Prop} {X Y : SS} {v : α} (e : t = some (X, Y, v)) (h : ok (k X Y v) P) : ok (b2 t k) P := by
  subst e
  exact h
theorem in_eq (p a b : Int32) : f_X7_in p a b = some (if p < a ∨ b < p then 0 else 1) := by
  unfold f_X7_in
  by_cases h : p < a
  · rw [if_pos h, if_pos (Or.inl h)]
  · rw [if_neg h]
    by_cases h2 : b < p
    · rw [if_pos h2, if_pos (Or.inr h2)]
    · rw [if_neg h2, if_neg (fun z => z.elim h h2)]
/-! brackets that close each other -/
def bk (c : Int32) : Int := if c = 91 then 1 else if c = 93 then -1 else 0
def ht (pl : Nat → Int32) : Nat → Int
  | 0 => 0
  | k + 1 => ht pl k + bk (pl k)
def WH (pl : Nat → Int32) (len : Nat) : Prop := (∀ k, k ≤ len → 0 ≤ ht pl k) ∧ ht pl len = 0
def MT (pl : Nat → Int32) (a c : Nat) : Prop := a < c ∧ ht pl (c + 1) = ht pl a ∧ (∀ j, a < j → j ≤ c → ht pl a < ht pl j) ∧ pl a = 91 ∧ pl c = 93
theorem bk_le (c : Int32) : -1 ≤ bk c ∧ bk c ≤ 1 := by
  unfold bk
  split
  · omega
  · split <;> omega
theorem bk_o {c : Int32} (h : c = 91) : bk c = 1 := by unfold bk; rw [if_pos h]
theorem bk_c {c : Int32} (h : c = 93) : bk c = -1 := by subst h; decide
theorem bk_0 {c : Int32} (h : ¬ c = 91) (h2 : ¬ c = 93) : bk c = 0 := by unfold bk; rw [if_neg h, if_neg h2]
theorem bk_1 {c : Int32} (h : bk c = 1) : c = 91 := by
  unfold bk at h
  split at h
  · assumption
  · split at h <;> omega
theorem bk_m {c : Int32} (h : bk c = -1) : c = 93 := by
  unfold bk at h
  split at h
  · omega
  · split at h
    · assumption
    · omega
theorem ht_le (pl : Nat → Int32) (k : Nat) : -(k : Int) ≤ ht pl k ∧ ht pl k ≤ k := by
  induction k with
  | zero => exact ⟨by simp [ht], by simp [ht]⟩
  | succ k ih =>
    have := bk_le (pl k)
    unfold ht
    omega
theorem ht_cong {pl pl2 : Nat → Int32} {k : Nat} (h : ∀ a, a < k → pl a = pl2 a) : ht pl k = ht pl2 k := by
  induction k with
  | zero => rfl
  | succ k ih =>
    unfold ht
    rw [ih (fun a ha => h a (by omega)), h k (by omega)]
theorem WH_cong {pl pl2 : Nat → Int32} {len : Nat} (h : ∀ a, a < len → pl a = pl2 a) (hw : WH pl len) : WH pl2 len :=
  ⟨fun k hk => by rw [← ht_cong (fun a ha => h a (by omega))]; exact hw.1 k hk, by rw [← ht_cong (fun a ha => h a (by omega))]; exact hw.2⟩
theorem MT_cong {pl pl2 : Nat → Int32} {len a c : Nat} (h : ∀ a, a < len → pl a = pl2 a) (hc : c < len) (hm : MT pl a c) : MT pl2 a c := by
  obtain ⟨h1, h2, h3, h4, h5⟩ := hm
  have e : ∀ k, k ≤ len → ht pl k = ht pl2 k := fun k hk => ht_cong (fun a ha => h a (by omega))
  refine ⟨h1, by rw [← e _ (by omega), ← e _ (by omega)]; exact h2, fun j hj hj2 => ?_, by rw [← h a (by omega)]; exact h4, by rw [← h c hc]; exact h5⟩
  rw [← e _ (by omega), ← e _ (by omega)]
  exact h3 j hj hj2
theorem MT_left {pl : Nat → Int32} {a b c : Nat} (h : MT pl a c) (h2 : MT pl b c) : a = b := by
  obtain ⟨x1, x2, x3, -, -⟩ := h
  obtain ⟨y1, y2, y3, -, -⟩ := h2
  rcases Nat.lt_trichotomy a b with q | q | q
  · have := x3 b q (by omega); omega
  · exact q
  · have := y3 a q (by omega); omega
theorem MT_right {pl : Nat → Int32} {a b c : Nat} (h : MT pl a b) (h2 : MT pl a c) : b = c := by
  obtain ⟨x1, x2, x3, -, -⟩ := h
  obtain ⟨y1, y2, y3, -, -⟩ := h2
  rcases Nat.lt_trichotomy b c with q | q | q
  · have := y3 (b + 1) (by omega) (by omega); omega
  · exact q
  · have := x3 (c + 1) (by omega) (by omega); omega
theorem least {p : Nat → Prop} : ∀ n, p n → ∃ k, k ≤ n ∧ p k ∧ ∀ j, j < k → ¬ p j := by
  intro n
  induction n using Nat.strongRecOn with
  | _ n ih =>
    intro h
    by_cases q : ∃ m, m < n ∧ p m
    · obtain ⟨m, hm, hp⟩ := q
      obtain ⟨k, h1, h2, h3⟩ := ih m hm hp
      exact ⟨k, by omega, h2, h3⟩
    · exact ⟨n, Nat.le_refl _, h, fun j hj hp => q ⟨j, hj, hp⟩⟩
theorem MT_fwd {pl : Nat → Int32} {len a : Nat} (hw : WH pl len) (ha : a < len) (h : pl a = 91) : ∃ c, c < len ∧ MT pl a c := by
  have h0 := hw.1 a (by omega)
  have h1 : ht pl (a + 1) = ht pl a + 1 := by
    show ht pl a + bk (pl a) = _
    rw [bk_o h]
  obtain ⟨k, hk, ⟨hak, hle⟩, hmin⟩ := least (p := fun k => a < k ∧ ht pl k ≤ ht pl a) len ⟨ha, by rw [hw.2]; exact h0⟩
  obtain ⟨c, rfl⟩ : ∃ c, k = c + 1 := ⟨k - 1, by omega⟩
  have hac : a < c := by
    rcases Nat.lt_or_ge a c with q | q
    · exact q
    · exfalso
      have : c = a := by omega
      subst this
      omega
  have hgt : ht pl a < ht pl c := by
    have := hmin c (by omega)
    simp only [not_and] at this
    have := this hac
    omega
  have hb := bk_le (pl c)
  have hs : ht pl (c + 1) = ht pl c + bk (pl c) := rfl
  refine ⟨c, by omega, hac, by omega, fun j hj hj2 => ?_, h, bk_m (by omega)⟩
  have := hmin j (by omega)
  simp only [not_and] at this
  have := this hj
  omega
theorem MT_bwd {pl : Nat → Int32} {len c : Nat} (hw : WH pl len) (hc : c < len) (h : pl c = 93) : ∃ a, MT pl a c := by
  have h0 := hw.1 (c + 1) (by omega)
  have h1 : ht pl (c + 1) = ht pl c - 1 := by
    show ht pl c + bk (pl c) = _
    rw [bk_c h]
    omega
  obtain ⟨k, hk, ⟨hkc, hle⟩, hmin⟩ := least (p := fun k => k ≤ c ∧ ht pl (c - k) ≤ ht pl (c + 1)) c ⟨Nat.le_refl _, by rw [Nat.sub_self]; exact h0⟩
  have hk0 : k ≠ 0 := by
    intro z
    subst z
    simp only [Nat.sub_zero] at hle
    omega
  have hgt : ht pl (c + 1) < ht pl (c - k + 1) := by
    have := hmin (k - 1) (by omega)
    rw [show c - (k - 1) = c - k + 1 by omega] at this
    simp only [not_and] at this
    have := this (by omega)
    omega
  have hb := bk_le (pl (c - k))
  have hs : ht pl (c - k + 1) = ht pl (c - k) + bk (pl (c - k)) := rfl
  refine ⟨c - k, by omega, by omega, fun j hj hj2 => ?_, bk_1 (by omega), h⟩
  have := hmin (c - j) (by omega)
  rw [show c - (c - j) = j by omega] at this
  simp only [not_and] at this
  have := this (by omega)
  omega
