/-- what throws and the making of rows of objects stand on: castable words, the texts, the classes of rows, Throwable's two statics; out of the region A -/
def ev_cast : List (String × String) := [("java/lang/IllegalArgumentException", "java/lang/IllegalArgumentException"), ("java/lang/IllegalStateException", "java/lang/IllegalStateException"), ("java/lang/IndexOutOfBoundsException", "java/lang/IndexOutOfBoundsException"), ("java/lang/UnsupportedOperationException", "java/lang/UnsupportedOperationException"), ("java/util/NoSuchElementException", "java/util/NoSuchElementException"), ("java/lang/ArithmeticException", "java/lang/ArithmeticException")]
def ev_str : List (String × Nat × String) := [("Katacode", 84, "ni+-*%dspo[]"), ("Katacode", 94, "no such letter"), ("Katacode", 103, "the number is out of range"), ("Katacode", 110, "there are 24 steps"), ("Katacode", 126, "there are no more numbers of this kind"), ("Katacode", 135, "the level is out of range"), ("Katacode", 137, "there are 8 katas"), ("Katacode", 149, "there are 5 tests"), ("Katacode", 169, "what is typed is not whole"), ("Katacode", 188, "no such number"), ("Katacode", 197, "there are 10 members"), ("Katacode", 203, "not whole, or no test"), ("Katacode", 205, "there are 40 works"), ("Katacode", 236, "no such thing"), ("Katacode", 250, "the test was added behind that"), ("Katacode", 258, "no body, or no such step"), ("Katacode", 264, "the work has no body"), ("Katacode", 273, "the room is out of range"), ("Katacode", 282, "no such copy"), ("Katacode", 287, "the style is out of range"), ("Katacode", 293, "the own one, without a body, or in f"), ("Katacode", 319, "no work to review"), ("Katacode", 325, "no work of the member counts"), ("Katacode", 338, "no such place"), ("Katacode", 340, "the own one, not in p, or too little honour"), ("Katacode", 342, "8 challenges are open"), ("Katacode", 350, "the work is not in c"), ("Katacode", 355, "the member has no copy of it"), ("Katacode", 365, "the work is not in c, or what is typed is not whole"), ("Katacode", 371, "no such challenge"), ("Katacode", 373, "the days are out of range"), ("Katacode", 387, "there are no works"), ("Katacode", 393, "there are no steps"), ("Katacode", 406, "no such kata"), ("Katacode", 409, "no such test"), ("Katacode", 411, "no such member"), ("Katacode", 413, "no such work"), ("Katacode", 415, "there was no run")]
def ev_ao : List String := ["Katacode$Kata", "Katacode$Member", "Katacode$Program", "Katacode$Test", "Katacode$Work"]
def ev_dec : List MethodName := [⟨"java/lang/RuntimeException", "<init>", "(Ljava/lang/String;)V"⟩, ⟨"java/lang/Exception", "<init>", "(Ljava/lang/String;)V"⟩, ⟨"java/lang/Throwable", "<init>", "(Ljava/lang/String;)V"⟩]
def EV (A : Nat → Prop) (U : State) : Prop := (∀ y ∈ ev_dec, va_Nw (.declares y) U) ∧ (∀ q ∈ ev_cast, va_Nw (.castable q.1 q.2) U) ∧ (∀ q ∈ ev_str, ∃ a, vk_R q.1 q.2.1 q.2.2 a U) ∧ (∀ C ∈ ev_ao, va_AO C U) ∧ vx_Zq Bundle.tN "UNASSIGNED_STACK" Bundle.steD A U U.heap ∧ vx_Zq Bundle.tN "SUPPRESSED_SENTINEL" Bundle.listD A U U.heap
theorem EV.calling {A : Nat → Prop} {U : State} {g : JFrame} {mk : MethodId} {a : Array Value} (h : EV A U) : EV A (U.calling g mk a) := by
  obtain ⟨h0, h1, h2, h3, h4, h5⟩ := h
  refine ⟨fun q hq => va_tabs (A := #[]) rfl rfl (h0 q hq), fun q hq => va_tabs (A := #[]) rfl rfl (h1 q hq), fun q hq => ?_, fun C hC => va_AO.moved (u := U) (Vm.Alike.refl U.vm) (h3 C hC), vx_Zq.moved (u := U) (U := U.calling g mk a) (Vm.Alike.refl U.vm) h4, vx_Zq.moved (u := U) (U := U.calling g mk a) (Vm.Alike.refl U.vm) h5⟩
  obtain ⟨x, hx⟩ := h2 q hq
  exact ⟨x, vk_R.same rfl hx⟩
theorem EV.to {A A1 : Nat → Prop} {s U : State} {H : Heap} {locs : List Loc} (h : EV A s) (hS : va_S A s.heap H locs) (hU : U.heap = H) (hW : s.WarmedH U.vm) (hA : ∀ q, A1 q → A q) : EV A1 U := by
  obtain ⟨h0, h1, h2, h3, h4, h5⟩ := h
  refine ⟨fun q hq => va_Nw.warmD hW (h0 q hq), fun q hq => va_Nw.warmC hW (h1 q hq), fun q hq => ?_, fun C hC => va_AO.moved hW.alike (h3 C hC), ?_, ?_⟩
  · obtain ⟨x, hx⟩ := h2 q hq
    exact ⟨x, vk_R.warm hW hx⟩
  · exact ((h4.moved hW.alike).kept (H1 := U.heap) (fun a ha hn => by rw [hU]; exact hS.2.1 a ha hn)).narrow hA
  · exact ((h5.moved hW.alike).kept (H1 := U.heap) (fun a ha hn => by rw [hU]; exact hS.2.1 a ha hn)).narrow hA
theorem EV.str {A : Nat → Prop} {s : State} (h : EV A s) {own tx : String} {k : Nat} (hm : (own, k, tx) ∈ ev_str) : ∃ a, vk_R own k tx a s := h.2.2.1 _ hm
theorem EV.cast {A : Nat → Prop} {s : State} {args : Array Value} (h : EV A s) {C T : String} (hm : (C, T) ∈ ev_cast) : (Cond.castable C T).before args s = true := va_Nw.use rfl (h.2.1 _ hm)
theorem EV.dec {A : Nat → Prop} {s : State} {args : Array Value} (h : EV A s) {y : MethodName} (hm : y ∈ ev_dec) : (Cond.declares y).before args s = true := va_Nw.use rfl (h.1 _ hm)
theorem EV.ao {A : Nat → Prop} {s : State} (h : EV A s) {C : String} (hm : C ∈ ev_ao) : va_AO C s := h.2.2.2.1 _ hm
theorem EV.zu {A : Nat → Prop} {s : State} (h : EV A s) : vx_Zq Bundle.tN "UNASSIGNED_STACK" Bundle.steD A s s.heap := h.2.2.2.2.1
theorem EV.zn {A : Nat → Prop} {s : State} (h : EV A s) : vx_Zq Bundle.tN "SUPPRESSED_SENTINEL" Bundle.listD A s s.heap := h.2.2.2.2.2
theorem fF {A : Nat → Prop} {s t : State} {H : Heap} {locs : List Loc} (h : va_S A s.heap H locs) (h1 : H.size ≤ t.heap.size) (h2 : ∀ q : Nat, q < H.size → t.heap[q]? = H[q]?) : va_F A s t := ⟨Nat.le_trans h.1 h1, fun q hq hn => (h2 q (Nat.lt_of_lt_of_le hq h.1)).trans (h.2.1 q hq hn)⟩

/-- 0 in the range, else 1: what a call with a number out of it throws -/
def rgC (lo hi x : Int32) : Int32 := if x < lo then 1 else if hi < x then 1 else 0
/-- the reference's in(v, low, high) -/
def inC (x lo hi : Int32) : Int32 := if x < lo then 0 else if hi < x then 0 else 1
theorem inC_none (x : Int32) : inC x 0 (-1) = 0 := by
  unfold inC
  by_cases h : x < 0
  · rw [if_pos h]
  · rw [if_neg h, if_pos]
    simp only [Int32.lt_iff_toInt_lt] at h ⊢
    have h0 : (0 : Int32).toInt = 0 := rfl
    have h1 : (-1 : Int32).toInt = -1 := rfl
    omega
theorem inC_rg {lo hi x : Int32} : inC x lo hi = 1 - rgC lo hi x := by
  unfold inC rgC
  by_cases h : x < lo
  · rw [if_pos h, if_pos h]; rfl
  · rw [if_neg h, if_neg h]
    by_cases h2 : hi < x
    · rw [if_pos h2, if_pos h2]; rfl
    · rw [if_neg h2, if_neg h2]; rfl
theorem rgC_01 {lo hi x : Int32} : rgC lo hi x = 0 ∨ rgC lo hi x = 1 := by
  unfold rgC
  by_cases h : x < lo
  · rw [if_pos h]; exact Or.inr rfl
  · rw [if_neg h]
    by_cases h2 : hi < x
    · rw [if_pos h2]; exact Or.inr rfl
    · rw [if_neg h2]; exact Or.inl rfl
