-- states: ints, longs, places of programs, doubles, by kind, number, place
abbrev SS : Type := (Nat → Nat → Nat → Int32) × (Nat → Nat → Nat → Int64) × (Nat → Nat → Nat → Nat) × (Nat → Nat → Nat → UInt64)
abbrev SG : Type := SS × SS × SS
abbrev ZT : Type := va_G × (Nat → ClassId) × (Nat → Nat → Nat)
def up3 {α : Type} (f : Nat → Nat → Nat → α) (a b c : Nat) (x : α) : Nat → Nat → Nat → α := fun a' b' c' => if a' = a ∧ b' = b ∧ c' = c then x else f a' b' c'
def u1 (X : SS) (a b c : Nat) (x : Int32) : SS := (up3 X.1 a b c x, X.2)
def u2 (X : SS) (a b c : Nat) (x : Int64) : SS := (X.1, up3 X.2.1 a b c x, X.2.2)
def u3 (X : SS) (a b c : Nat) (x : Nat) : SS := (X.1, X.2.1, up3 X.2.2.1 a b c x, X.2.2.2)
def u4 (X : SS) (a b c : Nat) (x : UInt64) : SS := (X.1, X.2.1, X.2.2.1, up3 X.2.2.2 a b c x)
theorem up3_at {α : Type} {f : Nat → Nat → Nat → α} {a b c c' : Nat} {x : α} : up3 f a b c x a b c' = if c' = c then x else f a b c' := by simp [up3]
theorem up3_ne {α : Type} {f : Nat → Nat → Nat → α} {a b c a' b' : Nat} {x : α} (h : (a', b') ≠ (a, b)) : up3 f a b c x a' b' = f a' b' := by
  funext j
  unfold up3
  rw [if_neg]
  intro e
  exact h (by rw [e.1, e.2.1])
theorem up3_row {f : Nat → Nat → Nat → Int32} {a b c : Nat} {x : Int32} : up3 f a b c x a b = upd (f a b) c x := by
  funext j
  simp [up3, upd]
theorem up3_rowL {f : Nat → Nat → Nat → Int64} {a b c : Nat} {x : Int64} : up3 f a b c x a b = vp_updL (f a b) c x := by
  funext j
  simp [up3, vp_updL]
theorem up3_rowD {f : Nat → Nat → Nat → UInt64} {a b c : Nat} {x : UInt64} : up3 f a b c x a b = vf_upd (f a b) c x := by
  funext j
  simp [up3, vf_upd]
def cntL : List Nat := [1, 71, 71, 71, 41, 41, 41, 8, 8, 10, 10, 10, 40, 40, 40, 40, 2, 2, 2, 2, 2, 1, 1, 1, 1, 1, 1, 1, 1, 1, 1, 1, 1, 1, 1, 1, 1, 1, 1, 1, 1, 1, 1, 1, 1, 1, 1, 1, 1, 1, 1, 1, 1, 1, 1, 1, 1, 1]
def cnt (kd : Nat) : Nat := cntL.getD kd 0
def sel (G : SG) (kd : Nat) : SS := if kd < 26 then G.1 else if kd < 56 then G.2.1 else G.2.2
def entL (Z : ZT) (i : Nat) (f : Nat → Int32) (g : Nat → Int64) (r : Nat → Nat) (d : Nat → UInt64) : List va_E :=
  let a := Z.2.2
  let cA := Z.2.1
  [.inr (8, [.ref (a 1 0), .ref (a 4 40), .ref (a 21 0), .ref (a 22 0), .ref (a 23 0), .ref (a 24 0), .ref (a 25 0), .ref (a 16 0), .ref (a 16 1), .int (f 9), .int (f 10), .int (f 11), .int (f 12), .int (f 13), .int (f 14), .int (f 15)]),
   .inr (5, [.ref (a 2 i), .ref (a 3 i), .int (f 2)]), .inl (cA 1, 24, .inl f), .inl (cA 0, 24, .inl f),
   .inr (6, [.ref (a 5 i), .ref (a 6 i), .int (f 2), .int (f 3), .int (f 4)]), .inl (cA 0, 4, .inl f), .inl (cA 0, 6, .inl f),
   .inr (2, [.ref (a 8 i), .int (f 1), .int (f 2)]), .inl (cA 9, 5, .inr (.inr (.inr (.inr (fun j => some (a 4 (5 * i + j))))))),
   .inr (4, [.ref (a 10 i), .ref (a 11 i), .int (f 2), .int (f 3)]), .inl (cA 8, 3, .inr (.inr (.inr (.inr (fun j => some (a 1 (r j))))))), .inl (cA 0, 3, .inl f),
   .inr (7, [.ref (a 1 (i + 1)), .ref (a 13 i), .ref (a 14 i), .ref (a 15 i), .int (f 4), .int (f 5), .int (f 6), .int (f 7), .int (f 8), .int (f 9), .long (g 10), .int (f 11), .int (f 12), .int (f 13), .int (f 14), .int (f 15), .int (f 16)]),
   .inl (cA 0, 5, .inl f), .inl (cA 0, 10, .inl f), .inl (cA 0, 10, .inl f),
   .inr (3, [.ref (a 17 i), .ref (a 18 i), .ref (a 19 i), .ref (a 20 i), .int (f 4), .int (f 5), .int (f 6), .int (f 7), .int (f 8)]),
   .inl (cA 0, 12, .inl f), .inl (cA 0, 6, .inl f), .inl (cA 0, 24, .inl f), .inl (cA 0, 24, .inl f),
   .inl (cA 5, 8, .inr (.inr (.inr (.inr (fun j => some (a 7 j)))))), .inl (cA 6, 10, .inr (.inr (.inr (.inr (fun j => some (a 9 j)))))), .inl (cA 7, 40, .inr (.inr (.inr (.inr (fun j => some (a 12 j)))))),
   .inl (cA 0, 8, .inl f), .inl (cA 0, 8, .inl f),
   .inr (9, [.int (f 0), .int (f 1), .int (f 2), .int (f 3), .int (f 4), .int (f 5), .int (f 6), .int (f 7), .int (f 8), .int (f 9), .ref (a 27 0), .ref (a 28 0), .ref (a 29 0), .ref (a 30 0), .ref (a 31 0), .ref (a 32 0), .ref (a 33 0), .ref (a 34 0), .ref (a 35 0), .ref (a 36 0), .ref (a 37 0), .ref (a 38 0), .ref (a 39 0), .ref (a 40 0), .ref (a 41 0), .ref (a 42 0), .ref (a 43 0), .ref (a 44 0), .ref (a 45 0), .ref (a 46 0), .ref (a 47 0), .ref (a 48 0), .ref (a 49 0), .ref (a 50 0), .ref (a 51 0), .ref (a 52 0), .ref (a 53 0), .ref (a 54 0), .int (f 38), .int (f 39), .int (f 40), .int (f 41), .int (f 42), .int (f 43), .int (f 44), .ref (a 55 0)]),
   .inl (cA 1, 984, .inl f), .inl (cA 0, 984, .inl f), .inl (cA 0, 41, .inl f), .inl (cA 0, 4, .inl f), .inl (cA 0, 6, .inl f), .inl (cA 0, 8, .inl f), .inl (cA 0, 8, .inl f),
   .inl (cA 0, 40, .inl f), .inl (cA 0, 40, .inl f), .inl (cA 0, 160, .inl f), .inl (cA 0, 240, .inl f), .inl (cA 0, 40, .inl f), .inl (cA 0, 40, .inl f), .inl (cA 0, 40, .inl f),
   .inl (cA 3, 40, .inr (.inl g)), .inl (cA 1, 40, .inl f), .inl (cA 2, 40, .inl f), .inl (cA 0, 200, .inl f), .inl (cA 0, 200, .inl f), .inl (cA 0, 400, .inl f), .inl (cA 0, 400, .inl f),
   .inl (cA 0, 40, .inl f), .inl (cA 0, 40, .inl f), .inl (cA 0, 40, .inl f), .inl (cA 0, 10, .inl f), .inl (cA 0, 30, .inl f), .inl (cA 0, 12, .inl f), .inl (cA 0, 6, .inl f), .inl (cA 0, 6, .inl f),
   .inl (cA 3, 1, .inr (.inl g)), .inl (cA 4, 1, .inr (.inr (.inr (.inl d))))]
def ent (Z : ZT) (G : SG) (kd i : Nat) : va_E := (entL Z i ((sel G kd).1 kd i) ((sel G kd).2.1 kd i) ((sel G kd).2.2.1 kd i) ((sel G kd).2.2.2 kd i)).getD kd (.inr (0, []))
def ids : List (Nat × Nat) := (List.range 58).flatMap (fun kd => (List.range (cnt kd)).map (fun i => (kd, i)))
theorem ids_mem {kd i : Nat} (h : i < cnt kd) : (kd, i) ∈ ids := by
  have hk : kd < 58 := by
    rcases Nat.lt_or_ge kd 58 with q | q
    · exact q
    · exfalso
      unfold cnt at h
      rw [List.getD_eq_getElem?_getD, List.getElem?_eq_none (by exact q)] at h
      exact Nat.not_lt_zero _ h
  exact List.mem_flatMap.mpr ⟨kd, List.mem_range.mpr hk, List.mem_map.mpr ⟨i, List.mem_range.mpr h, rfl⟩⟩
theorem ids_lt {kd i : Nat} (h : (kd, i) ∈ ids) : i < cnt kd := by
  obtain ⟨k, -, h2⟩ := List.mem_flatMap.mp h
  obtain ⟨j, h3, h4⟩ := List.mem_map.mp h2
  cases h4
  exact List.mem_range.mp h3
def wS (Z : ZT) (G : SG) : va_W := ids.map (fun q => (Z.2.2 q.1 q.2, ent Z G q.1 q.2))
def wP (Z : ZT) (G : SG) (H : Heap) : Prop := va_P Z.1 vwCl (wS Z G) H
def tyA (Z : ZT) : List (ClassId × FieldType) := [(Z.2.1 0, .int), (Z.2.1 1, .char), (Z.2.1 2, .boolean), (Z.2.1 3, .long), (Z.2.1 4, .double), (Z.2.1 5, .object RX0), (Z.2.1 6, .object RX2), (Z.2.1 7, .object RX5), (Z.2.1 8, .object RX3), (Z.2.1 9, .object RX4)]
def wK (Z : ZT) (U : State) : Prop := va_K Z.1 vwCl (tyA Z) U
def wA (Z : ZT) (sz : Nat) : Nat → Prop := fun a => (∃ kd i, i < cnt kd ∧ a = Z.2.2 kd i) ∨ sz ≤ a
/-- the addresses are apart -/
def wD (Z : ZT) : Prop := ∀ (i j : Nat) (p q : Nat × Nat), ids[i]? = some p → ids[j]? = some q → Z.2.2 p.1 p.2 = Z.2.2 q.1 q.2 → i = j
theorem wS_get {Z : ZT} {G : SG} {k : Nat} {q : Nat × va_E} (h : (wS Z G)[k]? = some q) : ∃ kd i, ids[k]? = some (kd, i) ∧ q = (Z.2.2 kd i, ent Z G kd i) := by
  unfold wS at h
  rw [List.getElem?_map] at h
  cases hi : ids[k]? with
  | none => rw [hi] at h; cases h
  | some z => rw [hi] at h; cases h; exact ⟨z.1, z.2, rfl, rfl⟩
theorem wS_at {Z : ZT} {G : SG} {kd i : Nat} (h : i < cnt kd) : ∃ k : Nat, ids[k]? = some (kd, i) ∧ (wS Z G)[k]? = some (Z.2.2 kd i, ent Z G kd i) := by
  obtain ⟨k, hk⟩ := List.getElem?_of_mem (ids_mem h)
  refine ⟨k, hk, ?_⟩
  unfold wS
  rw [List.getElem?_map, hk]
  rfl
theorem wD_of {Z : ZT} (hZ : wD Z) (G : SG) (sz : Nat) : va_D (wA Z sz) (wS Z G) := by
  refine ⟨fun i j p q hi hj e => ?_, fun k q hk => ?_⟩
  · obtain ⟨k1, i1, a1, rfl⟩ := wS_get hi
    obtain ⟨k2, i2, a2, rfl⟩ := wS_get hj
    exact hZ i j _ _ a1 a2 e
  · obtain ⟨k1, i1, a1, rfl⟩ := wS_get hk
    exact Or.inl ⟨k1, i1, ids_lt (List.mem_of_getElem? a1), rfl⟩
theorem wP_kept {Z : ZT} {G : SG} {H H1 : Heap} (h : wP Z G H) (hq : ∀ q : Nat, q < H.size → H1[q]? = H[q]?) : wP Z G H1 := va_P.kept h (fun k q hk => hq _ (h k q hk).lt)
theorem wP_eq {Z : ZT} {G : SG} {H H1 : Heap} (h : H1 = H) (hP : wP Z G H) : wP Z G H1 := h ▸ hP
theorem wP_lt {Z : ZT} {G : SG} {H : Heap} (h : wP Z G H) {kd i : Nat} (hi : i < cnt kd) : Z.2.2 kd i < H.size := by
  obtain ⟨k, -, hk⟩ := wS_at (Z := Z) (G := G) hi
  exact (h k _ hk).lt
theorem wA_mono {Z : ZT} {a b : Nat} (h : a ≤ b) : ∀ q, wA Z b q → wA Z a q := fun _ hq => hq.elim Or.inl (fun z => Or.inr (Nat.le_trans h z))
theorem wP_set {Z : ZT} (hZ : wD Z) {G G1 : SG} {H1 : Heap} {k0 kd i : Nat} {e : va_E} (hk0 : ids[k0]? = some (kd, i)) (hsame : ∀ kd' i', (kd', i') ≠ (kd, i) → ent Z G1 kd' i' = ent Z G kd' i') (hnew : ent Z G1 kd i = e) (h : va_P Z.1 vwCl ((wS Z G).set k0 (Z.2.2 kd i, e)) H1) : wP Z G1 H1 := by
  have hlen : k0 < (wS Z G).length := by
    unfold wS
    rw [List.length_map]
    exact (List.getElem?_eq_some_iff.mp hk0).1
  intro k q hk
  obtain ⟨kd', i', h1, rfl⟩ := wS_get hk
  by_cases hkk : k = k0
  · subst hkk
    cases Option.some.inj (h1.symm.trans hk0)
    rw [hnew]
    exact h k _ (List.getElem?_set_self hlen)
  · have hne : (kd', i') ≠ (kd, i) := fun z => hkk (hZ k k0 _ _ h1 hk0 (by rw [z]))
    rw [hsame kd' i' hne]
    refine h k _ ?_
    rw [List.getElem?_set_ne (Ne.symm hkk)]
    unfold wS
    rw [List.getElem?_map, h1]
    rfl
theorem sel_n {X X1 M O : SS} {kd' i' : Nat} (h : (X1.1 kd' i', X1.2.1 kd' i', X1.2.2.1 kd' i', X1.2.2.2 kd' i') = (X.1 kd' i', X.2.1 kd' i', X.2.2.1 kd' i', X.2.2.2 kd' i')) (Z : ZT) : ent Z (X1, M, O) kd' i' = ent Z (X, M, O) kd' i' ∧ ent Z (M, X1, O) kd' i' = ent Z (M, X, O) kd' i' ∧ ent Z (M, O, X1) kd' i' = ent Z (M, O, X) kd' i' := by
  simp only [Prod.mk.injEq] at h
  obtain ⟨h1, h2, h3, h4⟩ := h
  refine ⟨?_, ?_, ?_⟩ <;> (unfold ent sel; (repeat' split) <;> simp only [h1, h2, h3, h4])
theorem u1_n {X : SS} {a b c a' b' : Nat} {x : Int32} (h : (a', b') ≠ (a, b)) : ((u1 X a b c x).1 a' b', (u1 X a b c x).2.1 a' b', (u1 X a b c x).2.2.1 a' b', (u1 X a b c x).2.2.2 a' b') = (X.1 a' b', X.2.1 a' b', X.2.2.1 a' b', X.2.2.2 a' b') := by
  simp only [u1, up3_ne h]
theorem u2_n {X : SS} {a b c a' b' : Nat} {x : Int64} (h : (a', b') ≠ (a, b)) : ((u2 X a b c x).1 a' b', (u2 X a b c x).2.1 a' b', (u2 X a b c x).2.2.1 a' b', (u2 X a b c x).2.2.2 a' b') = (X.1 a' b', X.2.1 a' b', X.2.2.1 a' b', X.2.2.2 a' b') := by
  simp only [u2, up3_ne h]
theorem u3_n {X : SS} {a b c a' b' : Nat} {x : Nat} (h : (a', b') ≠ (a, b)) : ((u3 X a b c x).1 a' b', (u3 X a b c x).2.1 a' b', (u3 X a b c x).2.2.1 a' b', (u3 X a b c x).2.2.2 a' b') = (X.1 a' b', X.2.1 a' b', X.2.2.1 a' b', X.2.2.2 a' b') := by
  simp only [u3, up3_ne h]
theorem u4_n {X : SS} {a b c a' b' : Nat} {x : UInt64} (h : (a', b') ≠ (a, b)) : ((u4 X a b c x).1 a' b', (u4 X a b c x).2.1 a' b', (u4 X a b c x).2.2.1 a' b', (u4 X a b c x).2.2.2 a' b') = (X.1 a' b', X.2.1 a' b', X.2.2.1 a' b', X.2.2.2 a' b') := by
  simp only [u4, up3_ne h]
-- the forms of the methods as functions
noncomputable def gd {α : Type} (q : Prop) (x : Option α) : Option α := @ite _ q (Classical.propDecidable q) x none
theorem gd_s {α : Type} {q : Prop} {x : Option α} {r : α} (h : gd q x = some r) : q ∧ x = some r := by
  unfold gd at h
  split at h
  · exact ⟨by assumption, h⟩
  · cases h
theorem gd_t {α : Type} {q : Prop} {x : Option α} (h : q) : gd q x = x := by
  unfold gd
  exact if_pos h
def lq {α β : Type} (a : α) (k : α → Option β) : Option β := k a
theorem lq_s {α β : Type} {a : α} {k : α → Option β} {r : β} (h : lq a k = some r) : ∃ b, b = a ∧ k b = some r := ⟨a, rfl, h⟩
theorem it_t {α : Type} {q : Prop} [Decidable q] {x y : Option α} {r : α} (c : q) (h : (if q then x else y) = some r) : x = some r := by
  rw [if_pos c] at h; exact h
theorem it_f {α : Type} {q : Prop} [Decidable q] {x y : Option α} {r : α} (c : ¬ q) (h : (if q then x else y) = some r) : y = some r := by
  rw [if_neg c] at h; exact h
def b0 {α β : Type} (x : Option α) (k : α → Option β) : Option β := x.bind k
theorem b0_s {α β : Type} {x : Option α} {k : α → Option β} {r : β} (h : b0 x k = some r) : ∃ v, x = some v ∧ k v = some r := by
  cases x with
  | none => cases h
  | some v => exact ⟨v, rfl, h⟩
def b1 {α β : Type} (x : Option (SS × α)) (k : SS → α → Option β) : Option β := x.bind (fun q => k q.1 q.2)
theorem b1_s {α β : Type} {x : Option (SS × α)} {k : SS → α → Option β} {r : β} (h : b1 x k = some r) : ∃ X v, x = some (X, v) ∧ k X v = some r := by
  cases x with
  | none => cases h
  | some v => exact ⟨v.1, v.2, rfl, h⟩
def b2 {α β : Type} (x : Option (SS × SS × α)) (k : SS → SS → α → Option β) : Option β := x.bind (fun q => k q.1 q.2.1 q.2.2)
theorem b2_s {α β : Type} {x : Option (SS × SS × α)} {k : SS → SS → α → Option β} {r : β} (h : b2 x k = some r) : ∃ X Y v, x = some (X, Y, v) ∧ k X Y v = some r := by
  cases x with
  | none => cases h
  | some v => exact ⟨v.1, v.2.1, v.2.2, rfl, h⟩
def e0 {α β : Type} (x : Option (α ⊕ String)) (k : α → Option β) (ke : String → Option β) : Option β := x.bind (fun q => q.elim k ke)
theorem e0_s {α β : Type} {x : Option (α ⊕ String)} {k : α → Option β} {ke : String → Option β} {r : β} (h : e0 x k ke = some r) : ∃ o, x = some o ∧ (∀ v, o = .inl v → k v = some r) ∧ ∀ E, o = .inr E → ke E = some r := by
  cases x with
  | none => cases h
  | some o => exact ⟨o, rfl, fun v e => by subst e; exact h, fun E e => by subst e; exact h⟩
def e1 {α β : Type} (x : Option (SS × (α ⊕ String))) (k : SS → α → Option β) (ke : SS → String → Option β) : Option β := x.bind (fun q => q.2.elim (k q.1) (ke q.1))
theorem e1_s {α β : Type} {x : Option (SS × (α ⊕ String))} {k : SS → α → Option β} {ke : SS → String → Option β} {r : β} (h : e1 x k ke = some r) : ∃ X o, x = some (X, o) ∧ (∀ v, o = .inl v → k X v = some r) ∧ ∀ E, o = .inr E → ke X E = some r := by
  cases x with
  | none => cases h
  | some q =>
    obtain ⟨X, o⟩ := q
    exact ⟨X, o, rfl, fun v e => by subst e; exact h, fun E e => by subst e; exact h⟩
theorem gn {α β : Type} {f : α → Option β} {a : α} {r : β} (h : f a = some r) : ∃ k, k = a ∧ f k = some r := ⟨a, rfl, h⟩
theorem vp_lt {x : Int32} {n : Nat} (h : vp_in x n) : x.toNatClampNeg < n := Nat.not_le.mp fun q => h (Or.inr q)
def okc (x : Int32) : Prop := narrow .char (.int x) = .int x ∧ Jvm.fits .char (.int x) = true
def okz (x : Int32) : Prop := narrow .boolean (.int x) = .int x ∧ Jvm.fits .boolean (.int x) = true
theorem lt_B {w : Nat} (h : w < 40) : w + 1 < 71 := by omega
theorem lt_T {k j : Nat} (h : k < 8) (h2 : j < 5) : 5 * k + j < 41 := by omega
-- contracts
def cP (Z : ZT) (G : SG) (sz : Nat) : State → Prop := fun U => U.heap.size = sz ∧ EV (wA Z sz) U ∧ wP Z G U.heap ∧ wK Z U
theorem cP_blind {Z : ZT} {G : SG} {sz : Nat} {av : List Value} : FrameBlind (va_Pc av (cP Z G sz)) := fun a U g mk q => by
  obtain ⟨q0, q1, qE, qP, qK⟩ := q
  exact ⟨q0, q1, EV.calling qE, qP, va_K.moved (u := U) (U := U.calling g mk a) (Vm.Alike.refl U.vm) qK⟩
def cX {α : Type} (Z : ZT) (G : SG) (o : α ⊕ String) (sz : Nat) : String → State → State → Prop := vx_X (fun _ : Unit => True) (fun E _ t => o = .inr E ∧ wP Z G t.heap) (wA Z sz)
def cQi (Z : ZT) (G : SG) (o : Int32 ⊕ String) (sz : Nat) : Array Value → State → Outcome → State → Prop := va_Qi (fun (r : Int32) (_ : Unit) => o = .inl r) (fun _ t => wP Z G t.heap) (wA Z sz)
def cQl (Z : ZT) (G : SG) (o : Int64 ⊕ String) (sz : Nat) : Array Value → State → Outcome → State → Prop := va_Ql (fun (r : Int64) (_ : Unit) => o = .inl r) (fun _ t => wP Z G t.heap) (wA Z sz)
def cQf (Z : ZT) (G : SG) (o : UInt32 ⊕ String) (sz : Nat) : Array Value → State → Outcome → State → Prop := va_Qf (fun (r : UInt32) (_ : Unit) => o = .inl r) (fun _ t => wP Z G t.heap) (wA Z sz)
def cQd (Z : ZT) (G : SG) (o : UInt64 ⊕ String) (sz : Nat) : Array Value → State → Outcome → State → Prop := va_Qd (fun (r : UInt64) (_ : Unit) => o = .inl r) (fun _ t => wP Z G t.heap) (wA Z sz)
def cQv (Z : ZT) (G : SG) (o : Unit ⊕ String) (sz : Nat) : Array Value → State → Outcome → State → Prop := va_Qv (fun (_ : Unit) => o = .inl ()) (fun _ t => wP Z G t.heap) (wA Z sz)
def cQq (Z : ZT) (kd : Nat) (G : SG) (o : Nat ⊕ String) (sz : Nat) : Array Value → State → Outcome → State → Prop := va_Qq (fun (r : Option Nat) (_ : Unit) => ∃ i, i < cnt kd ∧ o = .inl i ∧ r = some (Z.2.2 kd i)) (fun _ t => wP Z G t.heap) (wA Z sz)
