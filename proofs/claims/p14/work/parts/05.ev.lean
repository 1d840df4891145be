/-- what throws and the making of rows of objects stand on: castable words, the texts, the classes of rows, Throwable's two statics; out of the region A -/
def ev_cast : List (String × String) := [("java/lang/IllegalArgumentException", "java/lang/IllegalArgumentException"), ("java/lang/IllegalStateException", "java/lang/IllegalStateException"), ("java/lang/IndexOutOfBoundsException", "java/lang/IndexOutOfBoundsException"), ("java/lang/UnsupportedOperationException", "java/lang/UnsupportedOperationException"), ("java/util/NoSuchElementException", "java/util/NoSuchElementException"), ("java/lang/ArithmeticException", "java/lang/ArithmeticException")]
def ev_str : List (String × Nat × String) := [("Katacode", 84, "ni+-*%dspo[]"), ("Katacode", 94, "no such letter"), ("Katacode", 103, "the number is out of range"), ("Katacode", 110, "there are 24 steps"), ("Katacode", 126, "there are no more numbers of this kind"), ("Katacode", 135, "the level is out of range"), ("Katacode", 137, "there are 8 katas"), ("Katacode", 149, "there are 5 tests"), ("Katacode", 169, "what is typed is not whole"), ("Katacode", 188, "no such number"), ("Katacode", 197, "there are 10 members"), ("Katacode", 203, "not whole, or no test"), ("Katacode", 205, "there are 40 works"), ("Katacode", 236, "no such thing"), ("Katacode", 250, "the test was added behind that"), ("Katacode", 258, "no body, or no such step"), ("Katacode", 264, "the work has no body"), ("Katacode", 273, "the room is out of range"), ("Katacode", 282, "no such copy"), ("Katacode", 287, "the style is out of range"), ("Katacode", 293, "the own one, without a body, or in f"), ("Katacode", 319, "no work to review"), ("Katacode", 325, "no work of the member counts"), ("Katacode", 338, "no such place"), ("Katacode", 340, "the own one, not in p, or too little honour"), ("Katacode", 342, "8 challenges are open"), ("Katacode", 350, "the work is not in c"), ("Katacode", 355, "the member has no copy of it"), ("Katacode", 365, "the work is not in c, or what is typed is not whole"), ("Katacode", 371, "no such challenge"), ("Katacode", 373, "the days are out of range"), ("Katacode", 387, "there are no works"), ("Katacode", 393, "there are no steps"), ("Katacode", 406, "no such kata"), ("Katacode", 409, "no such test"), ("Katacode", 411, "no such member"), ("Katacode", 413, "no such work"), ("Katacode", 415, "there was no run")]
def ev_ao : List String := ["Katacode$Kata", "Katacode$Member", "Katacode$Program", "Katacode$Test", "Katacode$Work"]
def lt_by : List Int32 := [110, 105, 43, 45, 42, 37, 100, 115, 112, 111, 91, 93]
/-- the text of the letters: the String, its bytes, COMPACT_STRINGS; out of the region A -/
def LE (gS gB : Nat) (A : Nat → Prop) (U : State) : Prop := vk_R "Katacode" 84 "ni+-*%dspo[]" gS U ∧ va_O "java/lang/String" gS A U U.heap ∧ va_OF "java/lang/String" "coder" "B" (.int 0) gS A U U.heap ∧ va_OF "java/lang/String" "value" "[B" (.ref gB) gS A U U.heap ∧ va_T .byte gB 12 (fun j => .int (lt_by.getD j 0)) A U U.heap ∧ va_Z "java/lang/String" "COMPACT_STRINGS" "Z" (.int 1) A U U.heap
theorem LE.calling {gS gB : Nat} {A : Nat → Prop} {U : State} {g : JFrame} {mk : MethodId} {a : Array Value} (h : LE gS gB A U) : LE gS gB A (U.calling g mk a) := by
  obtain ⟨h1, h2, h3, h4, h5, h6⟩ := h
  exact ⟨vk_R.same rfl h1, va_O.moved (u := U) (U := U.calling g mk a) (Vm.Alike.refl U.vm) h2, va_OF.moved (u := U) (U := U.calling g mk a) (Vm.Alike.refl U.vm) h3, va_OF.moved (u := U) (U := U.calling g mk a) (Vm.Alike.refl U.vm) h4, va_T.moved (u := U) (U := U.calling g mk a) (Vm.Alike.refl U.vm) h5, va_Z.moved (u := U) (U := U.calling g mk a) (Vm.Alike.refl U.vm) h6⟩
theorem LE.to {gS gB : Nat} {A A1 : Nat → Prop} {s U : State} {H : Heap} {locs : List Loc} (h : LE gS gB A s) (hS : va_S A s.heap H locs) (hU : U.heap = H) (hW : s.WarmedH U.vm) (hA : ∀ q, A1 q → A q) : LE gS gB A1 U := by
  obtain ⟨h1, h2, h3, h4, h5, h6⟩ := h
  have hk : ∀ a : Nat, a < s.heap.size → ¬ A a → U.heap[a]? = s.heap[a]? := fun a ha hn => by rw [hU]; exact hS.2.1 a ha hn
  exact ⟨vk_R.warm hW h1, ((va_O.moved hW.alike h2).kept hk).narrow hA, ((va_OF.moved hW.alike h3).kept hk).narrow hA, ((va_OF.moved hW.alike h4).kept hk).narrow hA, ((va_T.moved hW.alike h5).kept hk).narrow hA, ((va_Z.moved hW.alike h6).kept hk).narrow hA⟩
def ev_dec : List MethodName := [⟨"java/lang/RuntimeException", "<init>", "(Ljava/lang/String;)V"⟩, ⟨"java/lang/Exception", "<init>", "(Ljava/lang/String;)V"⟩, ⟨"java/lang/Throwable", "<init>", "(Ljava/lang/String;)V"⟩]
def ev_nc : List (String × String) := [("java/lang/ArithmeticException", "java/lang/IllegalArgumentException"), ("java/lang/ArithmeticException", "java/lang/IllegalStateException"), ("java/lang/ArithmeticException", "java/lang/IndexOutOfBoundsException"), ("java/lang/ArithmeticException", "java/lang/UnsupportedOperationException"), ("java/lang/ArithmeticException", "java/util/NoSuchElementException"), ("java/lang/IllegalArgumentException", "java/lang/ArithmeticException"), ("java/lang/IllegalArgumentException", "java/lang/IllegalStateException"), ("java/lang/IllegalArgumentException", "java/lang/IndexOutOfBoundsException"), ("java/lang/IllegalArgumentException", "java/lang/UnsupportedOperationException"), ("java/lang/IllegalArgumentException", "java/util/NoSuchElementException"), ("java/lang/IllegalStateException", "java/lang/ArithmeticException"), ("java/lang/IllegalStateException", "java/lang/IllegalArgumentException"), ("java/lang/IllegalStateException", "java/lang/IndexOutOfBoundsException"), ("java/lang/IllegalStateException", "java/lang/UnsupportedOperationException"), ("java/lang/IllegalStateException", "java/util/NoSuchElementException"), ("java/lang/IndexOutOfBoundsException", "java/lang/ArithmeticException"), ("java/lang/IndexOutOfBoundsException", "java/lang/IllegalArgumentException"), ("java/lang/IndexOutOfBoundsException", "java/lang/IllegalStateException"), ("java/lang/IndexOutOfBoundsException", "java/lang/UnsupportedOperationException"), ("java/lang/IndexOutOfBoundsException", "java/util/NoSuchElementException"), ("java/lang/UnsupportedOperationException", "java/lang/ArithmeticException"), ("java/lang/UnsupportedOperationException", "java/lang/IllegalArgumentException"), ("java/lang/UnsupportedOperationException", "java/lang/IllegalStateException"), ("java/lang/UnsupportedOperationException", "java/lang/IndexOutOfBoundsException"), ("java/lang/UnsupportedOperationException", "java/util/NoSuchElementException"), ("java/util/NoSuchElementException", "java/lang/ArithmeticException"), ("java/util/NoSuchElementException", "java/lang/IllegalArgumentException"), ("java/util/NoSuchElementException", "java/lang/IllegalStateException"), ("java/util/NoSuchElementException", "java/lang/IndexOutOfBoundsException"), ("java/util/NoSuchElementException", "java/lang/UnsupportedOperationException")]
def EV (A : Nat → Prop) (U : State) : Prop := (∀ y ∈ ev_dec, va_Nw (.declares y) U) ∧ (∀ q ∈ ev_cast, va_Nw (.castable q.1 q.2) U) ∧ (∀ q ∈ ev_str, ∃ a, vk_R q.1 q.2.1 q.2.2 a U) ∧ (∀ C ∈ ev_ao, va_AO C U) ∧ vx_Zq Bundle.tN "UNASSIGNED_STACK" Bundle.steD A U U.heap ∧ vx_Zq Bundle.tN "SUPPRESSED_SENTINEL" Bundle.listD A U U.heap ∧ (∃ gS gB : Nat, LE gS gB A U) ∧ (∀ q ∈ ev_nc, va_Nc q.1 q.2 U)
theorem EV.calling {A : Nat → Prop} {U : State} {g : JFrame} {mk : MethodId} {a : Array Value} (h : EV A U) : EV A (U.calling g mk a) := by
  obtain ⟨h0, h1, h2, h3, h4, h5, ⟨gS, gB, h6⟩, h7⟩ := h
  refine ⟨fun q hq => va_tabs (A := #[]) rfl rfl (h0 q hq), fun q hq => va_tabs (A := #[]) rfl rfl (h1 q hq), fun q hq => ?_, fun C hC => va_AO.moved (u := U) (Vm.Alike.refl U.vm) (h3 C hC), vx_Zq.moved (u := U) (U := U.calling g mk a) (Vm.Alike.refl U.vm) h4, vx_Zq.moved (u := U) (U := U.calling g mk a) (Vm.Alike.refl U.vm) h5, ⟨gS, gB, LE.calling h6⟩, fun q hq => va_Nc.moved (u := U) (Vm.Alike.refl U.vm) (h7 q hq)⟩
  obtain ⟨x, hx⟩ := h2 q hq
  exact ⟨x, vk_R.same rfl hx⟩
theorem EV.to {A A1 : Nat → Prop} {s U : State} {H : Heap} {locs : List Loc} (h : EV A s) (hS : va_S A s.heap H locs) (hU : U.heap = H) (hW : s.WarmedH U.vm) (hA : ∀ q, A1 q → A q) : EV A1 U := by
  obtain ⟨h0, h1, h2, h3, h4, h5, ⟨gS, gB, h6⟩, h7⟩ := h
  refine ⟨fun q hq => va_Nw.warmD hW (h0 q hq), fun q hq => va_Nw.warmC hW (h1 q hq), fun q hq => ?_, fun C hC => va_AO.moved hW.alike (h3 C hC), ?_, ?_, ⟨gS, gB, LE.to h6 hS hU hW hA⟩, fun q hq => va_Nc.moved hW.alike (h7 q hq)⟩
  · obtain ⟨x, hx⟩ := h2 q hq
    exact ⟨x, vk_R.warm hW hx⟩
  · exact ((h4.moved hW.alike).kept (H1 := U.heap) (fun a ha hn => by rw [hU]; exact hS.2.1 a ha hn)).narrow hA
  · exact ((h5.moved hW.alike).kept (H1 := U.heap) (fun a ha hn => by rw [hU]; exact hS.2.1 a ha hn)).narrow hA
theorem EV.str {A : Nat → Prop} {s : State} (h : EV A s) {own tx : String} {k : Nat} (hm : (own, k, tx) ∈ ev_str) : ∃ a, vk_R own k tx a s := h.2.2.1 _ hm
theorem EV.cast {A : Nat → Prop} {s : State} {args : Array Value} (h : EV A s) {C T : String} (hm : (C, T) ∈ ev_cast) : (Cond.castable C T).before args s = true := va_Nw.use rfl (h.2.1 _ hm)
theorem EV.dec {A : Nat → Prop} {s : State} {args : Array Value} (h : EV A s) {y : MethodName} (hm : y ∈ ev_dec) : (Cond.declares y).before args s = true := va_Nw.use rfl (h.1 _ hm)
theorem EV.ao {A : Nat → Prop} {s : State} (h : EV A s) {C : String} (hm : C ∈ ev_ao) : va_AO C s := h.2.2.2.1 _ hm
theorem EV.zu {A : Nat → Prop} {s : State} (h : EV A s) : vx_Zq Bundle.tN "UNASSIGNED_STACK" Bundle.steD A s s.heap := h.2.2.2.2.1
theorem EV.zn {A : Nat → Prop} {s : State} (h : EV A s) : vx_Zq Bundle.tN "SUPPRESSED_SENTINEL" Bundle.listD A s s.heap := h.2.2.2.2.2.1
theorem EV.le {A : Nat → Prop} {s : State} (h : EV A s) : ∃ gS gB : Nat, LE gS gB A s := h.2.2.2.2.2.2.1
theorem EV.nc {A : Nat → Prop} {s : State} (h : EV A s) {C T : String} (hm : (C, T) ∈ ev_nc) : va_Nc C T s := h.2.2.2.2.2.2.2 _ hm
theorem fF {A : Nat → Prop} {s t : State} {H : Heap} {locs : List Loc} (h : va_S A s.heap H locs) (h1 : H.size ≤ t.heap.size) (h2 : ∀ q : Nat, q < H.size → t.heap[q]? = H[q]?) : va_F A s t := ⟨Nat.le_trans h.1 h1, fun q hq hn => (h2 q (Nat.lt_of_lt_of_le hq h.1)).trans (h.2.1 q hq hn)⟩

/-- 0 in the range, else 1: what a call with a number out of it throws -/
def rgC (lo hi x : Int32) : Int32 := if x < lo then 1 else if hi < x then 1 else 0
/-- the reference's in(v, low, high) -/
def inC (x lo hi : Int32) : Int32 := if x < lo then 0 else if hi < x then 0 else 1
theorem inC_none (x : Int32) : inC x 0 (-1) = 0 := by
  unfold inC
  by_cases h : x < 0
  · rw [if_pos h]
  · rw [if_neg h, if_pos]
    simp only [Int32.lt_iff_toInt_lt] at h ⊢
    have h0 : (0 : Int32).toInt = 0 := rfl
    have h1 : (-1 : Int32).toInt = -1 := rfl
    omega
theorem inC_rg {lo hi x : Int32} : inC x lo hi = 1 - rgC lo hi x := by
  unfold inC rgC
  by_cases h : x < lo
  · rw [if_pos h, if_pos h]; rfl
  · rw [if_neg h, if_neg h]
    by_cases h2 : hi < x
    · rw [if_pos h2, if_pos h2]; rfl
    · rw [if_neg h2, if_neg h2]; rfl
theorem rgC_01 {lo hi x : Int32} : rgC lo hi x = 0 ∨ rgC lo hi x = 1 := by
  unfold rgC
  by_cases h : x < lo
  · rw [if_pos h]; exact Or.inr rfl
  · rw [if_neg h]
    by_cases h2 : hi < x
    · rw [if_pos h2]; exact Or.inr rfl
    · rw [if_neg h2]; exact Or.inl rfl
/-- a loop of N turns from its head: an invariant P by turns -/
theorem lp_W {p : Program} {l : Launch} {e : Env} {R : Room} {s : State} {m : MethodId} {args : Array Value} {below : List Frame} {meth : Method} {c : Code} {Q : State → Prop} {pc N : Nat} (P : Nat → Heap → List Loc → Nat → Nat → Array Slot → Prop)
    (hs : ∀ i : Nat, i < N → ∀ (H : Heap) (locs : List Loc) (cs ss : Nat) (ls : Array Slot), P i H locs cs ss ls → (∀ (H1 : Heap) (locs1 : List Loc) (cs1 ss1 : Nat) (ls1 : Array Slot), P (i + 1) H1 locs1 cs1 ss1 ls1 → W p l e R s m args below meth c H1 locs1 cs1 ss1 Q (F0 m pc ls1 [])) → W p l e R s m args below meth c H locs cs ss Q (F0 m pc ls []))
    (he : ∀ (H : Heap) (locs : List Loc) (cs ss : Nat) (ls : Array Slot), P N H locs cs ss ls → W p l e R s m args below meth c H locs cs ss Q (F0 m pc ls []))
    {H : Heap} {locs : List Loc} {cs ss : Nat} {ls : Array Slot} (h0 : P 0 H locs cs ss ls) : W p l e R s m args below meth c H locs cs ss Q (F0 m pc ls []) := by
  have key : ∀ (n i : Nat), i + n = N → ∀ (H : Heap) (locs : List Loc) (cs ss : Nat) (ls : Array Slot), P i H locs cs ss ls → W p l e R s m args below meth c H locs cs ss Q (F0 m pc ls []) := by
    intro n
    induction n with
    | zero =>
      intro i hi H locs cs ss ls hp
      have : i = N := by omega
      subst this
      exact he H locs cs ss ls hp
    | succ n ih =>
      intro i hi H locs cs ss ls hp
      exact hs i (by omega) H locs cs ss ls hp (fun H1 locs1 cs1 ss1 ls1 h1 => ih (i + 1) (by omega) H1 locs1 cs1 ss1 ls1 h1)
  exact key N 0 (by omega) H locs cs ss ls h0
theorem inC_0 {x lo hi : Int32} (h : inC x lo hi = 0) : rgC lo hi x = 1 := by
  rcases rgC_01 (lo := lo) (hi := hi) (x := x) with z | z
  · rw [inC_rg, z] at h
    exact absurd h (by decide)
  · exact z
theorem inC_n0 {x lo hi : Int32} (h : ¬ inC x lo hi = 0) : rgC lo hi x = 0 := by
  rcases rgC_01 (lo := lo) (hi := hi) (x := x) with z | z
  · exact z
  · rw [inC_rg, z] at h
    exact absurd rfl h
