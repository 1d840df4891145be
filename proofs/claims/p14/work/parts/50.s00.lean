/-! what a form gives: it is some, and so -/
def ok {α : Type} (t : Option α) (P : α → Prop) : Prop := ∃ r, t = some r ∧ P r
theorem ok_ite {α : Type} {q : Prop} [Decidable q] {a b : Option α} {P : α → Prop} (h1 : q → ok a P) (h2 : ¬ q → ok b P) : ok (if q then a else b) P := by
  split
  · exact h1 (by assumption)
  · exact h2 (by assumption)
theorem ok_gd {α : Type} {q : Prop} {t : Option α} {P : α → Prop} (h : q) (h2 : q → ok t P) : ok (gd q t) P := by
  rw [gd_t h]
  exact h2 h
theorem ok_lq {α β : Type} {a : α} {k : α → Option β} {P : β → Prop} (h : ∀ x, x = a → ok (k x) P) : ok (lq a k) P := h a rfl
theorem ok_some {α : Type} {r : α} {P : α → Prop} (h : P r) : ok (some r) P := ⟨r, rfl, h⟩
theorem ok_b0 {α β : Type} {t : Option α} {k : α → Option β} {P : α → Prop} {P2 : β → Prop} (h : ok t P) (h2 : ∀ v, P v → ok (k v) P2) : ok (b0 t k) P2 := by
  obtain ⟨r, e, hp⟩ := h
  subst e
  exact h2 r hp
theorem ok_b1 {α β : Type} {t : Option (SS × α)} {k : SS → α → Option β} {P : SS × α → Prop} {P2 : β → Prop} (h : ok t P) (h2 : ∀ X v, P (X, v) → ok (k X v) P2) : ok (b1 t k) P2 := by
  obtain ⟨r, e, hp⟩ := h
  subst e
  exact h2 r.1 r.2 hp
theorem ok_b2 {α β : Type} {t : Option (SS × SS × α)} {k : SS → SS → α → Option β} {P : SS × SS × α → Prop} {P2 : β → Prop} (h : ok t P) (h2 : ∀ X Y v, P (X, Y, v) → ok (k X Y v) P2) : ok (b2 t k) P2 := by
  obtain ⟨r, e, hp⟩ := h
  subst e
  exact h2 r.1 r.2.1 r.2.2 hp
theorem ok_e0 {α β : Type} {t : Option (α ⊕ String)} {k : α → Option β} {ke : String → Option β} {P : α ⊕ String → Prop} {P2 : β → Prop} (h : ok t P) (h2 : ∀ v, P (.inl v) → ok (k v) P2) (h3 : ∀ E, P (.inr E) → ok (ke E) P2) : ok (e0 t k ke) P2 := by
  obtain ⟨r, e, hp⟩ := h
  subst e
  cases r with
  | inl v => exact h2 v hp
  | inr E => exact h3 E hp
theorem ok_e1 {α β : Type} {t : Option (SS × (α ⊕ String))} {k : SS → α → Option β} {ke : SS → String → Option β} {P : SS × (α ⊕ String) → Prop} {P2 : β → Prop} (h : ok t P) (h2 : ∀ X v, P (X, .inl v) → ok (k X v) P2) (h3 : ∀ X E, P (X, .inr E) → ok (ke X E) P2) : ok (e1 t k ke) P2 := by
  obtain ⟨⟨X, o⟩, e, hp⟩ := h
  subst e
  cases o with
  | inl v => exact h2 X v hp
  | inr E => exact h3 X E hp
theorem ok_imp {α : Type} {t : Option α} {P Q : α → Prop} (h : ok t P) (h2 : ∀ r, P r → Q r) : ok t Q := by
  obtain ⟨r, e, hp⟩ := h
  exact ⟨r, e, h2 r hp⟩
theorem ok_and {α : Type} {t : Option α} {P Q : α → Prop} (h : ok t P) (h2 : ok t Q) : ok t (fun r => P r ∧ Q r) := by
  obtain ⟨r, e, hp⟩ := h
  obtain ⟨r2, e2, hq⟩ := h2
  subst e
  cases e2
  exact ⟨r, rfl, hp, hq⟩
def se {α : Type} (P : α → Prop) (Q : String → Prop) : α ⊕ String → Prop
  | .inl a => P a
  | .inr e => Q e
theorem vp_of {x : Int32} {n : Nat} (hn : n < 2 ^ 31) (h0 : 0 ≤ x) (h : x < nI n) : vp_in x n := by
  rw [vp_in_iff]
  have h1 := Int32.le_iff_toInt_le.mp h0
  have h2 := Int32.lt_iff_toInt_lt.mp h
  rw [nI_toInt hn] at h2
  have h3 : (0 : Int32).toInt = 0 := rfl
  omega
theorem vp_to {x : Int32} {n : Nat} (hn : n < 2 ^ 31) (h : vp_in x n) : (0 : Int32) ≤ x ∧ x < nI n := by
  rw [vp_in_iff] at h
  have h3 : (0 : Int32).toInt = 0 := rfl
  refine ⟨Int32.le_iff_toInt_le.mpr (by omega), Int32.lt_iff_toInt_lt.mpr ?_⟩
  rw [nI_toInt hn]
  omega
theorem okc_of {x : Int32} (h0 : 0 ≤ x) (h : x ≤ 65535) : okc x := by
  obtain ⟨j, hj, rfl⟩ := nI_of (x := x) (by grind)
  have h2 := Int32.le_iff_toInt_le.mp h
  rw [nI_toInt hj] at h2
  have h3 : (65535 : Int32).toInt = 65535 := rfl
  have hq : j < 65536 := by omega
  exact ⟨(pk_charN hq).1, (pk_charN hq).2⟩
theorem okz_of {x : Int32} (h0 : 0 ≤ x) (h : x ≤ 1) : okz x := by
  have h1 : x = 0 ∨ x = 1 := by grind
  rcases h1 with rfl | rfl
  · exact ⟨by decide, by decide⟩
  · exact ⟨by decide, by decide⟩
theorem cl_lt {x : Int32} {n : Nat} (h : vp_in x n) : x.toNatClampNeg < n := vp_lt h
/-! ranges of the cells -/
def fullI : Int32 × Int32 := (-2147483648, 2147483647)
def rg_0 : Nat → Int32 × Int32
  | 10 => (0, 10)
  | 11 => (0, 40)
  | 12 => (0, 8)
  | 13 => (0, 40)
  | 15 => (0, 1)
  | 8 => (0, 0)
  | 9 => (0, 8)
  | _ => fullI
def rg_1 : Nat → Int32 × Int32
  | 2 => (0, 24)
  | _ => fullI
def rg_4 : Nat → Int32 × Int32
  | 2 => (0, 4)
  | 3 => (0, 6)
  | _ => fullI
def rg_7 : Nat → Int32 × Int32
  | 1 => (0, 5)
  | 2 => (0, 5)
  | _ => fullI
def rg_9 : Nat → Int32 × Int32
  | 2 => (0, 3)
  | _ => fullI
def rg_12 : Nat → Int32 × Int32
  | 11 => (0, 65535)
  | 12 => (0, 1)
  | 13 => (0, 5)
  | 15 => (0, 9)
  | 7 => (0, 9)
  | 8 => (0, 7)
  | _ => fullI
def rg_16 : Nat → Int32 × Int32
  | 4 => (0, 12)
  | 5 => (0, 6)
  | 7 => (0, 4)
  | 8 => (0, 24)
  | _ => fullI
def rg_26 : Nat → Int32 × Int32
  | 0 => (0, 24)
  | 1 => (0, 4)
  | 2 => (0, 6)
  | 3 => (0, 8)
  | 38 => (0, 12)
  | 39 => (0, 6)
  | 4 => (0, 10)
  | 40 => (0, 300)
  | 41 => (0, 1)
  | 43 => (0, 6)
  | 5 => (0, 40)
  | 6 => (0, 40)
  | 9 => (0, 3)
  | _ => fullI
def rg : Nat → Nat → Int32 × Int32
  | 0, p => rg_0 p
  | 1, p => rg_1 p
  | 2, _ => (0, 65535)
  | 4, p => rg_4 p
  | 7, p => rg_7 p
  | 9, p => rg_9 p
  | 12, p => rg_12 p
  | 16, p => rg_16 p
  | 19, _ => (0, 23)
  | 20, _ => (0, 23)
  | 24, _ => (0, 39)
  | 25, _ => ((-1), 39)
  | 26, p => rg_26 p
  | 27, _ => (0, 65535)
  | 29, _ => (0, 24)
  | 32, _ => (0, 5)
  | 33, _ => (0, 5)
  | 34, _ => (0, 4)
  | 35, _ => (0, 6)
  | 39, _ => (0, 9)
  | 40, _ => (0, 7)
  | 42, _ => (0, 65535)
  | 43, _ => (0, 1)
  | 46, _ => (0, 5)
  | 47, _ => (0, 6)
  | 48, _ => (0, 9)
  | 52, _ => (0, 40)
  | _, _ => fullI
def isL (x : Int32) : Prop := x = 110 ∨ x = 105 ∨ x = 43 ∨ x = 45 ∨ x = 42 ∨ x = 37 ∨ x = 100 ∨ x = 115 ∨ x = 112 ∨ x = 111 ∨ x = 91 ∨ x = 93
/-- the reference's programs hold letters -/
def LV (M : SS) : Prop := M.1 29 0 40 = M.1 26 0 0 ∧ ∀ r a : Nat, r ≤ 40 → a < 24 → nI a < M.1 29 0 r → isL (M.1 27 0 (24 * r + a))
def nl (k p : Nat) : Bool := !(k == 27) && (!(k == 29) && !(k == 26 && p == 0))
def IV0 (A : Nat → Nat → Nat → Prop) (B X : SS) : Prop := (∀ k i p, (rg k p).1 ≤ X.1 k i p ∧ X.1 k i p ≤ (rg k p).2) ∧ (∀ k i p, ¬ A k i p → X.1 k i p = B.1 k i p) ∧ (∀ k i p, ¬ A (k + 100) i p → X.2.1 k i p = B.2.1 k i p) ∧ (∀ k i p, ¬ A (k + 200) i p → X.2.2.1 k i p = B.2.2.1 k i p) ∧ ∀ i p, i < 10 → p < 3 → 41 ≤ X.2.2.1 10 i p ∧ X.2.2.1 10 i p < 71
def IV (A : Nat → Nat → Nat → Prop) (B X : SS) : Prop := IV0 A B X ∧ LV X
theorem IV.at1 {A : Nat → Nat → Nat → Prop} {B X : SS} (h : IV A B X) (k i p : Nat) : (rg k p).1 ≤ X.1 k i p ∧ X.1 k i p ≤ (rg k p).2 := h.1.1 k i p
theorem IV0.at1 {A : Nat → Nat → Nat → Prop} {B X : SS} (h : IV0 A B X) (k i p : Nat) : (rg k p).1 ≤ X.1 k i p ∧ X.1 k i p ≤ (rg k p).2 := h.1 k i p
theorem IV.at3 {A : Nat → Nat → Nat → Prop} {B X : SS} (h : IV A B X) {i p : Nat} (hi : i < 10) (hp : p < 3) : 41 ≤ X.2.2.1 10 i p ∧ X.2.2.1 10 i p < 71 := h.1.2.2.2.2 i p hi hp
theorem IV.same {A : Nat → Nat → Nat → Prop} {B X : SS} (h : IV A B X) {k i p : Nat} (ha : ¬ A k i p) : X.1 k i p = B.1 k i p := h.1.2.1 k i p ha
theorem IV.same2 {A : Nat → Nat → Nat → Prop} {B X : SS} (h : IV A B X) {k i p : Nat} (ha : ¬ A (k + 100) i p) : X.2.1 k i p = B.2.1 k i p := h.1.2.2.1 k i p ha
theorem IV.same3 {A : Nat → Nat → Nat → Prop} {B X : SS} (h : IV A B X) {k i p : Nat} (ha : ¬ A (k + 200) i p) : X.2.2.1 k i p = B.2.2.1 k i p := h.1.2.2.2.1 k i p ha
theorem IV.self {A A2 : Nat → Nat → Nat → Prop} {B X : SS} (h : IV A B X) : IV A2 X X := ⟨⟨h.1.1, fun _ _ _ _ => rfl, fun _ _ _ _ => rfl, fun _ _ _ _ => rfl, h.1.2.2.2.2⟩, h.2⟩
theorem IV0.w1 {A : Nat → Nat → Nat → Prop} {B X : SS} (h : IV0 A B X) {k i p : Nat} {x : Int32} (ha : A k i p) (hx : (rg k p).1 ≤ x ∧ x ≤ (rg k p).2) : IV0 A B (u1 X k i p x) := by
  obtain ⟨h1, h2, h3, h4, h5⟩ := h
  refine ⟨fun k' i' p' => ?_, fun k' i' p' q => ?_, h3, h4, h5⟩
  · show (rg k' p').1 ≤ up3 X.1 k i p x k' i' p' ∧ up3 X.1 k i p x k' i' p' ≤ (rg k' p').2
    unfold up3
    split
    · next q => obtain ⟨rfl, rfl, rfl⟩ := q; exact hx
    · exact h1 k' i' p'
  · show up3 X.1 k i p x k' i' p' = B.1 k' i' p'
    unfold up3
    split
    · next z => obtain ⟨rfl, rfl, rfl⟩ := z; exact absurd ha q
    · exact h2 k' i' p' q
theorem full_of (x : Int32) : fullI.1 ≤ x ∧ x ≤ fullI.2 := ⟨Int32.minValue_le x, Int32.le_maxValue x⟩
theorem IV0.w1f {A : Nat → Nat → Nat → Prop} {B X : SS} (h : IV0 A B X) {k i p : Nat} {x : Int32} (hf : rg k p = fullI) (ha : A k i p) : IV0 A B (u1 X k i p x) := h.w1 ha (by rw [hf]; exact full_of x)
theorem LV.w1 {X : SS} (h : LV X) {k i p : Nat} {x : Int32} (hl : nl k p = true) : LV (u1 X k i p x) := by
  have hk : k ≠ 27 := by intro z; subst z; simp [nl] at hl
  have hk2 : k ≠ 29 := by intro z; subst z; simp [nl] at hl
  have hk3 : ∀ i' , up3 X.1 k i p x 26 i' 0 = X.1 26 i' 0 := by
    intro i'
    unfold up3
    rw [if_neg]
    rintro ⟨rfl, _, rfl⟩
    simp [nl] at hl
  have h27 : ∀ i' p', up3 X.1 k i p x 27 i' p' = X.1 27 i' p' := by
    intro i' p'
    unfold up3
    rw [if_neg]
    rintro ⟨z, _⟩
    exact hk z.symm
  have h29 : ∀ i' p', up3 X.1 k i p x 29 i' p' = X.1 29 i' p' := by
    intro i' p'
    unfold up3
    rw [if_neg]
    rintro ⟨z, _⟩
    exact hk2 z.symm
  refine ⟨?_, fun r a hr ha hs => ?_⟩
  · show up3 X.1 k i p x 29 0 40 = up3 X.1 k i p x 26 0 0
    rw [h29, hk3]
    exact h.1
  · show isL (up3 X.1 k i p x 27 0 (24 * r + a))
    rw [h27]
    exact h.2 r a hr ha (by rw [← h29]; exact hs)
theorem IV.w1 {A : Nat → Nat → Nat → Prop} {B X : SS} (h : IV A B X) {k i p : Nat} {x : Int32} (hl : nl k p = true) (ha : A k i p) (hx : (rg k p).1 ≤ x ∧ x ≤ (rg k p).2) : IV A B (u1 X k i p x) := ⟨h.1.w1 ha hx, h.2.w1 hl⟩
theorem IV.w1f {A : Nat → Nat → Nat → Prop} {B X : SS} (h : IV A B X) {k i p : Nat} {x : Int32} (hl : nl k p = true) (ha : A k i p) (hf : rg k p = fullI) : IV A B (u1 X k i p x) := ⟨h.1.w1f hf ha, h.2.w1 hl⟩
theorem IV.w2 {A : Nat → Nat → Nat → Prop} {B X : SS} (h : IV A B X) {k i p : Nat} {x : Int64} (ha : A (k + 100) i p) : IV A B (u2 X k i p x) := by
  obtain ⟨⟨h1, h2, h3, h4, h5⟩, h6⟩ := h
  refine ⟨⟨h1, h2, fun k' i' p' q => ?_, h4, h5⟩, h6⟩
  show up3 X.2.1 k i p x k' i' p' = B.2.1 k' i' p'
  unfold up3
  split
  · next z => obtain ⟨rfl, rfl, rfl⟩ := z; exact absurd ha q
  · exact h3 k' i' p' q
theorem IV.w3 {A : Nat → Nat → Nat → Prop} {B X : SS} (h : IV A B X) {k i p : Nat} {x : Nat} (ha : A (k + 200) i p) (hx : 41 ≤ x ∧ x < 71) : IV A B (u3 X k i p x) := by
  obtain ⟨⟨h1, h2, h3, h4, h5⟩, h6⟩ := h
  refine ⟨⟨h1, h2, h3, fun k' i' p' q => ?_, fun i' p' hi hp => ?_⟩, h6⟩
  · show up3 X.2.2.1 k i p x k' i' p' = B.2.2.1 k' i' p'
    unfold up3
    split
    · next z => obtain ⟨rfl, rfl, rfl⟩ := z; exact absurd ha q
    · exact h4 k' i' p' q
  · show 41 ≤ up3 X.2.2.1 k i p x 10 i' p' ∧ up3 X.2.2.1 k i p x 10 i' p' < 71
    unfold up3
    split
    · exact hx
    · exact h5 i' p' hi hp
theorem up_k {X : SS} {k i p k0 i0 p0 : Nat} {x : Int32} (h : k ≠ k0) : (u1 X k0 i0 p0 x).1 k i p = X.1 k i p := by
  show up3 X.1 k0 i0 p0 x k i p = _
  unfold up3
  rw [if_neg (fun z => h z.1)]
theorem up_i {X : SS} {k i p k0 i0 p0 : Nat} {x : Int32} (h : i ≠ i0) : (u1 X k0 i0 p0 x).1 k i p = X.1 k i p := by
  show up3 X.1 k0 i0 p0 x k i p = _
  unfold up3
  rw [if_neg (fun z => h z.2.1)]
theorem up_p {X : SS} {k i p k0 i0 p0 : Nat} {x : Int32} (h : p ≠ p0) : (u1 X k0 i0 p0 x).1 k i p = X.1 k i p := by
  show up3 X.1 k0 i0 p0 x k i p = _
  unfold up3
  rw [if_neg (fun z => h z.2.2)]
theorem up_s {X : SS} {k i p : Nat} {x : Int32} : (u1 X k i p x).1 k i p = x := by
  show up3 X.1 k i p x k i p = _
  unfold up3
  rw [if_pos ⟨rfl, rfl, rfl⟩]
/-! the fuel of the loops -/
def FU (v : Int32) (H : Int) (n : Nat) : Prop := H + 1 ≤ v.toInt + n
def FD (v : Int32) (n : Nat) : Prop := v.toInt + 2 ≤ n
theorem toInt_z : (0 : Int32).toInt = 0 := rfl
theorem FU.start {v : Int32} {H : Int} (h : 0 ≤ v) (hH : H ≤ 999) : FU v H 1000 := by
  have h1 := Int32.le_iff_toInt_le.mp h
  rw [toInt_z] at h1
  unfold FU
  omega
theorem add1 {v : Int32} (h : v < 2147483647) : (v + 1).toInt = v.toInt + 1 := by
  have h1 := Int32.lt_iff_toInt_lt.mp h
  have h2 : (2147483647 : Int32).toInt = 2147483647 := rfl
  rw [h2] at h1
  have h4 : ((1 : Int32).toInt) = 1 := rfl
  have h5 := v.le_toInt
  rw [Int32.toInt_add, h4]
  apply Int.bmod_eq_of_le <;> omega
theorem sub1 {v : Int32} (h : 0 ≤ v) : (v + (-1)).toInt = v.toInt - 1 := by
  have h1 := Int32.le_iff_toInt_le.mp h
  rw [toInt_z] at h1
  have h4 : ((-1 : Int32).toInt) = -1 := rfl
  have h5 := v.toInt_lt
  rw [Int32.toInt_add, h4]
  have h6 : v.toInt + -1 = v.toInt - 1 := rfl
  rw [h6]
  apply Int.bmod_eq_of_le <;> omega
theorem FU.step {v : Int32} {H : Int} {n : Nat} (h : FU v H (n + 1)) (hv : v < 2147483647) : FU (v + 1) H n := by
  unfold FU at *
  rw [add1 hv]
  omega
theorem FU.stepe {v w : Int32} {H : Int} {n : Nat} (h : FU v H (n + 1)) (hv : v < 2147483647) (hw : w = v + 1) : FU w H n := by
  subst hw
  exact h.step hv
theorem FU.stop {v m : Int32} {H : Int} (h : FU v H 0) (hv : v ≤ m) (hm : m.toInt ≤ H := by decide) : False := by
  have h1 := Int32.le_iff_toInt_le.mp hv
  unfold FU at h
  omega
theorem FD.start {v m : Int32} (h : v ≤ m) (hm : m.toInt ≤ 998 := by decide) : FD v 1000 := by
  have h1 := Int32.le_iff_toInt_le.mp h
  unfold FD
  omega
theorem FD.step {v : Int32} {n : Nat} (h : FD v (n + 1)) (hv : 0 ≤ v) : FD (v + (-1)) n := by
  unfold FD at *
  rw [sub1 hv]
  omega
theorem FD.stepe {v w : Int32} {n : Nat} (h : FD v (n + 1)) (hv : 0 ≤ v) (hw : w = v + (-1)) : FD w n := by
  subst hw
  exact h.step hv
theorem FD.stop {v : Int32} (h : FD v 0) (hv : -1 ≤ v) : False := by
  have h1 := Int32.le_iff_toInt_le.mp hv
  have h2 : (-1 : Int32).toInt = -1 := rfl
  unfold FD at h
  omega
def FZ (v : Int32) (n : Nat) : Prop := (2 : Int) ≤ n ∧ v.toInt + 2 ≤ n
theorem FZ.start {v : Int32} (h : v ≤ 60) : FZ v 1000 := by
  have h1 := Int32.le_iff_toInt_le.mp h
  have h2 : (60 : Int32).toInt = 60 := rfl
  unfold FZ
  omega
theorem FZ.step {v w : Int32} {n : Nat} (h : FZ v (n + 1)) (h0 : 0 < v) (hw : w < v) : FZ w n := by
  have h1 := Int32.lt_iff_toInt_lt.mp h0
  have h2 := Int32.lt_iff_toInt_lt.mp hw
  rw [toInt_z] at h1
  unfold FZ at *
  omega
/-! narrow -/
theorem nar_c (x : Int32) : (0 : Int32) ≤ vp_nar .char x ∧ vp_nar .char x ≤ (65535 : Int32) := by
  show (0 : Int32) ≤ x.toUInt32.toUInt16.toUInt32.toInt32 ∧ x.toUInt32.toUInt16.toUInt32.toInt32 ≤ (65535 : Int32)
  generalize x.toUInt32.toUInt16 = u
  have h : u.toUInt32.toInt32.toInt = (u.toNat : Int) := by
    show (u.toUInt32.toBitVec).toInt = _
    have h1 : u.toUInt32.toNat = u.toNat := UInt16.toNat_toUInt32 u
    have h2 := u.toNat_lt
    rw [BitVec.toInt_eq_toNat_of_lt]
    · show ((u.toUInt32.toNat : Nat) : Int) = _
      rw [h1]
    · show 2 * u.toUInt32.toNat < 2 ^ 32
      omega
  have h2 := u.toNat_lt
  have h3 : (65535 : Int32).toInt = 65535 := rfl
  refine ⟨Int32.le_iff_toInt_le.mpr ?_, Int32.le_iff_toInt_le.mpr ?_⟩
  · rw [h, toInt_z]
    omega
  · rw [h, h3]
    omega
theorem nar_isL {x : Int32} (h : isL x) : vp_nar .char x = x := by
  rcases h with h | h | h | h | h | h | h | h | h | h | h | h <;> (rw [h]; decide)
theorem LV.get {M : SS} {p v : Int32} (h : LV M) (hp0 : 0 ≤ p) (hp : p ≤ 40) (h0 : 0 ≤ v) (hv : v < 24) (hs : v < M.1 29 0 p.toNatClampNeg) : isL (M.1 27 0 (((24 : Int32) * p) + v).toNatClampNeg) := by
  obtain ⟨r, hr, rfl⟩ := nI_of (x := p) (by grind)
  obtain ⟨a, ha, rfl⟩ := nI_of (x := v) (by grind)
  have h1 := (nI_leI hr (by decide : (40 : Nat) < 2 ^ 31)).mp hp
  have h2 := (nI_ltI ha (by decide : (24 : Nat) < 2 ^ 31)).mp hv
  rw [nI_clamp hr] at hs
  have e : ((24 : Int32) * nI r) + nI a = nI (24 * r + a) := by rw [show (24 : Int32) = nI 24 from rfl, pk_mul, nI_add]
  rw [e, nI_clamp (by omega)]
  exact h.2 r a h1 h2 hs
/-- the bodies among the first works -/
def nb (M : SS) : Nat → Nat
  | 0 => 0
  | w + 1 => nb M w + (if M.1 43 0 w = 0 then 0 else 1)
theorem nb_le (M : SS) (w : Nat) : nb M w ≤ w := by
  induction w with
  | zero => exact Nat.le_refl _
  | succ w ih =>
    unfold nb
    split <;> omega
theorem nb_same {M M2 : SS} {w : Nat} (h : ∀ i, i < w → (M.1 43 0 i = 0 ↔ M2.1 43 0 i = 0)) : nb M w = nb M2 w := by
  induction w with
  | zero => rfl
  | succ w ih =>
    unfold nb
    rw [ih (fun i hi => h i (by omega))]
    have := h w (by omega)
    split <;> split <;> first | rfl | (exfalso; grind)
theorem nb_drop {M M2 : SS} {w j : Nat} (hj : j < w) (h1 : ¬ M.1 43 0 j = 0) (h2 : M2.1 43 0 j = 0) (h : ∀ i, i ≠ j → (M.1 43 0 i = 0 ↔ M2.1 43 0 i = 0)) : nb M w = nb M2 w + 1 := by
  induction w with
  | zero => omega
  | succ w ih =>
    unfold nb
    by_cases hw : j = w
    · subst hw
      rw [nb_same (M := M) (M2 := M2) (fun i hi => h i (by omega)), if_neg h1, if_pos h2]
    · rw [ih (by omega)]
      have := h w (fun z => hw z.symm)
      split <;> split <;> first | omega | (exfalso; grind)
theorem cl_succ {v : Int32} (h0 : 0 ≤ v) (h : v < 1000) : (v + 1).toNatClampNeg = v.toNatClampNeg + 1 := by
  obtain ⟨a, ha, rfl⟩ := nI_of (x := v) (by grind)
  have h2 := (nI_ltI ha (by decide : (1000 : Nat) < 2 ^ 31)).mp h
  rw [nI_1, nI_clamp (by omega), nI_clamp ha]
theorem cl_nI {v : Int32} (h0 : 0 ≤ v) : nI v.toNatClampNeg = v := by
  obtain ⟨a, ha, rfl⟩ := nI_of (x := v) (by grind)
  rw [nI_clamp ha]
theorem cl_le {v : Int32} {n : Nat} (h : v ≤ nI n) (hn : n < 2 ^ 31) : v.toNatClampNeg ≤ n := by
  by_cases h0 : v < 0
  · have h1 := Int32.lt_iff_toInt_lt.mp h0
    rw [toInt_z] at h1
    have : v.toNatClampNeg = 0 := by
      show v.toInt.toNat = 0
      omega
    omega
  · obtain ⟨a, ha, rfl⟩ := nI_of h0
    rw [nI_clamp ha]
    exact (nI_leI ha hn).mp h
theorem nb_start {M : SS} (h : M.1 26 0 5 ≤ (40 : Int32)) : ((nb M (M.1 26 0 5).toNatClampNeg : Nat) : Int) + 1 ≤ (1000 : Nat) := by
  have h1 := cl_le (n := 40) h (by decide)
  have h2 := nb_le M (M.1 26 0 5).toNatClampNeg
  omega
def TT : Nat → Nat → Nat → Prop := fun _ _ _ => True
def OKS (X : SS) : Prop := IV TT X X
theorem IV.oks {A : Nat → Nat → Nat → Prop} {B X : SS} (h : IV A B X) : OKS X := h.self
