/-- where a byte stands among the letters' bytes -/
def ixC (c : Int32) : Int32 := if 110 = c then 0 else if 105 = c then 1 else if 43 = c then 2 else if 45 = c then 3 else if 42 = c then 4 else if 37 = c then 5 else if 100 = c then 6 else if 115 = c then 7 else if 112 = c then 8 else if 111 = c then 9 else if 91 = c then 10 else if 93 = c then 11 else -1
def ixL (x : Int32) : Int32 := if inC x 0 255 = 0 then -1 else ixC x.toInt8.toInt32
def oneC (x a b c d : Int32) : Int32 := if x = a then 1 else if x = b then 1 else if x = c then 1 else if x = d then 1 else 0
def letC (x : Int32) : Int32 := if ¬ oneC x 110 105 43 45 = 0 then 1 else if ¬ oneC x 42 37 100 115 = 0 then 1 else if ¬ oneC x 112 111 91 93 = 0 then 1 else 0
/-- 0: a step that may be typed on a new object; 1: no such letter, or its number out of range -/
def stC (x n : Int32) : Int32 := if 0 ≤ ixL x then (if x = 110 then rgC (-999) 999 n else 0) else 1
def stM (x n : Int32) : Int32 := if letC x = 0 then 1 else if x = 110 then (if inC n (-999) 999 = 0 then 1 else 0) else 0
set_option maxRecDepth 100000 in
theorem ix_small : ∀ n : Nat, n < 256 → (0 ≤ ixL (nI n) ↔ ¬ letC (nI n) = 0) := by decide +kernel
theorem ix_let (x : Int32) : 0 ≤ ixL x ↔ ¬ letC x = 0 := by
  by_cases h : inC x 0 255 = 0
  · have h1 : ixL x = -1 := by unfold ixL; rw [if_pos h]
    rw [h1]
    have hne : ∀ k : Int32, ¬ inC k 0 255 = 0 → ¬ x = k := fun k hk e => hk (e ▸ h)
    have h2 : letC x = 0 := by
      unfold letC oneC
      simp [hne 110 (by decide), hne 105 (by decide), hne 43 (by decide), hne 45 (by decide), hne 42 (by decide), hne 37 (by decide), hne 100 (by decide), hne 115 (by decide), hne 112 (by decide), hne 111 (by decide), hne 91 (by decide), hne 93 (by decide)]
    rw [h2]
    decide
  · have h0 : ¬ x < 0 := fun z => h (by unfold inC; rw [if_pos z])
    have h9 : ¬ 255 < x := fun z => h (by unfold inC; rw [if_neg h0, if_pos z])
    obtain ⟨j, hj, rfl⟩ := nI_of h0
    have : j < 256 := by
      simp only [Int32.lt_iff_toInt_lt, nI_toInt hj] at h9
      have : (255 : Int32).toInt = 255 := rfl
      omega
    exact ix_small j this
theorem stM_eq (x n : Int32) : stM x n = stC x n := by
  unfold stM stC
  by_cases h : letC x = 0
  · rw [if_pos h, if_neg (fun z => (ix_let x).mp z h)]
  · rw [if_neg h, if_pos ((ix_let x).mpr h)]
    by_cases h2 : x = 110
    · rw [if_pos h2, if_pos h2]
      by_cases h3 : inC n (-999) 999 = 0
      · rw [if_pos h3, inC_0 h3]
      · rw [if_neg h3, inC_n0 h3]
    · rw [if_neg h2, if_neg h2]

set_option maxHeartbeats 4000000 in
set_option maxRecDepth 100000 in
theorem k_J0_isLatin1_aae02 (l : Launch) (hfl : l.stackTraces = false) (dC : Nat → ClassId) (dI : Nat → Nat → Nat) (gS gB sz : Nat)  : vx_Met l yJ0_isLatin1_aae02 wsJ0_isLatin1_aae02 ({ frames := 1, cells := 0, slots := 0, locals := 12 }) (va_Pc [.ref gS] (fun U => U.heap.size = sz ∧ LE gS gB (va_A [] sz) U ∧ va_P (dC, dI) vwCl [] U.heap ∧ va_K (dC, dI) vwCl [] U ∧ va_D (fun _ => True) [])) (va_Qi (fun (r : Int32) (u : Unit) => r = 1) (fun (u : Unit) (t : State) => va_P (dC, dI) vwCl [] t.heap ∧ va_K (dC, dI) vwCl [] t ∧ va_D (va_A [] sz) []) (va_A [] sz)) (vx_X (fun _ : Unit => True) (fun (E : String) (_ : Unit) (_ : State) => False) (va_A [] sz)) 0 0 (va_A [] sz) := by
  refine vx_ofW (cc := cJ0_isLatin1_aae02) (maxL := 1) (ret := (some .boolean)) (by decide) rfl ?_
  intro p e s m args below meth c s₁ B hml htab hv
  obtain ⟨rfl, hsz, hE, hP, hK, hD0⟩ := hv
  have hx := B.exec
  have hb := B.bytes
  have hr := B.returns
  have hts := atoms_spec (ws := wsJ0_isLatin1_aae02) B.pre
  have hown : s.vm.findClass RJ0 = some m.cls := findClass_of_methodNamed B.named
  have hlocks := B.notSynchronized
  have hout9 : ∀ (pc9 : Nat), ∀ x ∈ c.exceptionTable.toList, covers x pc9 = false := fun _ x hx9 => (htab x hx9).elim
  subst hsz
  have hD := hD0.self (sz := s.heap.size)
  generalize hAe : va_A [] s.heap.size = A at hD hE ⊢
  have hA : ∀ q : Nat, s.heap.size ≤ q → A q := fun q h => by rw [← hAe]; exact Or.inr h
  have hS : va_S A s.heap s.heap [] := va_S.rf
  have hP : va_P (dC, dI) vwCl [] s.heap := hP
  have hl := lv_entry ([.ref gS]) (n := 1) (Nat.le_of_ble_eq_true rfl)
  rw [lg_entry_eq]
  generalize (lg_sl ([.ref gS]) ++ List.replicate (1 - (lg_sl ([.ref gS])).length) Slot.unset).toArray = ls at hl ⊢
  have hl : lv_has ls 1 [(0, .ref gS)] := hl
  refine va_gets (v := .int 1) hx hb hE.2.2.2.2.2 hS hown (hts (.fieldLink RJ0 38 "java/lang/String" "COMPACT_STRINGS" "Z") (by decide +kernel)) (fun _ h9 => h9) dJ0_isLatin1_aae02_0 ?_
  refine lv_if_eq (tgt := 17) hx hb dJ0_isLatin1_aae02_3 (by decide) (fun cz1 => ?_) (fun cz1 => ?_)
  · exact absurd cz1 (by decide)
  · skip
    refine lv_aload_n hx hb dJ0_isLatin1_aae02_6 rfl (lv_at hl 0 rfl) ?_
    refine vk_getf (v := .int 0) hx hb (hE.2.2.1) hS hown (hts (.fieldLink RJ0 15 "java/lang/String" "coder" "B") (by decide +kernel)) (fun _ h9 => h9) dJ0_isLatin1_aae02_7 ?_
    refine lv_if_ne (tgt := 17) hx hb dJ0_isLatin1_aae02_10 (by decide) (fun cz2 => ?_) (fun cz2 => ?_)
    · exact absurd (by decide) cz2
    · skip
      refine lv_iconst (v := 1) hx hb dJ0_isLatin1_aae02_13 (by decide) ?_
      refine lv_goto (tgt := 18) hx hb dJ0_isLatin1_aae02_14 (by decide) ?_
      refine W.widen (k := 0) (n := 0) (by decide) (by decide) ?_
      refine vx_ret ?_
      have hP9 := hP.sub (ws' := []) [] rfl
      have hD9 := hD.sub (ws' := []) [] (by decide) rfl
      have hK9 := hK.sub (tys' := []) [] rfl
      exact W.zret (v := 1) hx hb hr (by decide) (fun t ht hW => ⟨⟨1, (), rfl, rfl, by rw [ht]; exact hP9, va_K.moved hW.alike hK9, hD9⟩, hS.F ht⟩) hS.2.2 dJ0_isLatin1_aae02_18
set_option maxHeartbeats 4000000 in
set_option maxRecDepth 100000 in
theorem k_J0_coder_7d493 (l : Launch) (hfl : l.stackTraces = false) (dC : Nat → ClassId) (dI : Nat → Nat → Nat) (gS gB sz : Nat)  : vx_Met l yJ0_coder_7d493 wsJ0_coder_7d493 ({ frames := 1, cells := 0, slots := 0, locals := 12 }) (va_Pc [.ref gS] (fun U => U.heap.size = sz ∧ LE gS gB (va_A [] sz) U ∧ va_P (dC, dI) vwCl [] U.heap ∧ va_K (dC, dI) vwCl [] U ∧ va_D (fun _ => True) [])) (va_Qi (fun (r : Int32) (u : Unit) => r = 0) (fun (u : Unit) (t : State) => va_P (dC, dI) vwCl [] t.heap ∧ va_K (dC, dI) vwCl [] t ∧ va_D (va_A [] sz) []) (va_A [] sz)) (vx_X (fun _ : Unit => True) (fun (E : String) (_ : Unit) (_ : State) => False) (va_A [] sz)) 0 0 (va_A [] sz) := by
  refine vx_ofW (cc := cJ0_coder_7d493) (maxL := 1) (ret := (some .byte)) (by decide) rfl ?_
  intro p e s m args below meth c s₁ B hml htab hv
  obtain ⟨rfl, hsz, hE, hP, hK, hD0⟩ := hv
  have hx := B.exec
  have hb := B.bytes
  have hr := B.returns
  have hts := atoms_spec (ws := wsJ0_coder_7d493) B.pre
  have hown : s.vm.findClass RJ0 = some m.cls := findClass_of_methodNamed B.named
  have hlocks := B.notSynchronized
  have hout9 : ∀ (pc9 : Nat), ∀ x ∈ c.exceptionTable.toList, covers x pc9 = false := fun _ x hx9 => (htab x hx9).elim
  subst hsz
  have hD := hD0.self (sz := s.heap.size)
  generalize hAe : va_A [] s.heap.size = A at hD hE ⊢
  have hA : ∀ q : Nat, s.heap.size ≤ q → A q := fun q h => by rw [← hAe]; exact Or.inr h
  have hS : va_S A s.heap s.heap [] := va_S.rf
  have hP : va_P (dC, dI) vwCl [] s.heap := hP
  have hl := lv_entry ([.ref gS]) (n := 1) (Nat.le_of_ble_eq_true rfl)
  rw [lg_entry_eq]
  generalize (lg_sl ([.ref gS]) ++ List.replicate (1 - (lg_sl ([.ref gS])).length) Slot.unset).toArray = ls at hl ⊢
  have hl : lv_has ls 1 [(0, .ref gS)] := hl
  refine va_gets (v := .int 1) hx hb hE.2.2.2.2.2 hS hown (hts (.fieldLink RJ0 38 "java/lang/String" "COMPACT_STRINGS" "Z") (by decide +kernel)) (fun _ h9 => h9) dJ0_coder_7d493_0 ?_
  refine lv_if_eq (tgt := 13) hx hb dJ0_coder_7d493_3 (by decide) (fun cz1 => ?_) (fun cz1 => ?_)
  · exact absurd cz1 (by decide)
  · skip
    refine lv_aload_n hx hb dJ0_coder_7d493_6 rfl (lv_at hl 0 rfl) ?_
    refine vk_getf (v := .int 0) hx hb (hE.2.2.1) hS hown (hts (.fieldLink RJ0 15 "java/lang/String" "coder" "B") (by decide +kernel)) (fun _ h9 => h9) dJ0_coder_7d493_7 ?_
    refine lv_goto (tgt := 14) hx hb dJ0_coder_7d493_10 (by decide) ?_
    refine W.widen (k := 0) (n := 0) (by decide) (by decide) ?_
    refine vx_ret ?_
    have hP9 := hP.sub (ws' := []) [] rfl
    have hD9 := hD.sub (ws' := []) [] (by decide) rfl
    have hK9 := hK.sub (tys' := []) [] rfl
    exact W.zret (v := 0) hx hb hr (by decide) (fun t ht hW => ⟨⟨0, (), rfl, rfl, by rw [ht]; exact hP9, va_K.moved hW.alike hK9, hD9⟩, hS.F ht⟩) hS.2.2 dJ0_coder_7d493_14
set_option maxHeartbeats 4000000 in
set_option maxRecDepth 100000 in
theorem k_J0_length_8abf5 (l : Launch) (hfl : l.stackTraces = false) (dC : Nat → ClassId) (dI : Nat → Nat → Nat) (gS gB sz : Nat)  : vx_Met l yJ0_length_8abf5 wsJ0_length_8abf5 ({ frames := 2, cells := 0, slots := 0, locals := 32 }) (va_Pc [.ref gS] (fun U => U.heap.size = sz ∧ LE gS gB (va_A [] sz) U ∧ va_P (dC, dI) vwCl [] U.heap ∧ va_K (dC, dI) vwCl [] U ∧ va_D (fun _ => True) [])) (va_Qi (fun (r : Int32) (u : Unit) => r = 12) (fun (u : Unit) (t : State) => va_P (dC, dI) vwCl [] t.heap ∧ va_K (dC, dI) vwCl [] t ∧ va_D (va_A [] sz) []) (va_A [] sz)) (vx_X (fun _ : Unit => True) (fun (E : String) (_ : Unit) (_ : State) => False) (va_A [] sz)) 0 0 (va_A [] sz) := by
  refine vx_ofW (cc := cJ0_length_8abf5) (maxL := 1) (ret := (some .int)) (by decide) rfl ?_
  intro p e s m args below meth c s₁ B hml htab hv
  obtain ⟨rfl, hsz, hE, hP, hK, hD0⟩ := hv
  have hx := B.exec
  have hb := B.bytes
  have hr := B.returns
  have hts := atoms_spec (ws := wsJ0_length_8abf5) B.pre
  have hown : s.vm.findClass RJ0 = some m.cls := findClass_of_methodNamed B.named
  have hlocks := B.notSynchronized
  have hout9 : ∀ (pc9 : Nat), ∀ x ∈ c.exceptionTable.toList, covers x pc9 = false := fun _ x hx9 => (htab x hx9).elim
  subst hsz
  have hD := hD0.self (sz := s.heap.size)
  generalize hAe : va_A [] s.heap.size = A at hD hE ⊢
  have hA : ∀ q : Nat, s.heap.size ≤ q → A q := fun q h => by rw [← hAe]; exact Or.inr h
  have hS : va_S A s.heap s.heap [] := va_S.rf
  have hP : va_P (dC, dI) vwCl [] s.heap := hP
  have hl := lv_entry ([.ref gS]) (n := 1) (Nat.le_of_ble_eq_true rfl)
  rw [lg_entry_eq]
  generalize (lg_sl ([.ref gS]) ++ List.replicate (1 - (lg_sl ([.ref gS])).length) Slot.unset).toArray = ls at hl ⊢
  have hl : lv_has ls 1 [(0, .ref gS)] := hl
  refine lv_aload_n hx hb dJ0_length_8abf5_0 rfl (lv_at hl 0 rfl) ?_
  refine vk_getf (v := .ref gB) hx hb (hE.2.2.2.1) hS hown (hts (.fieldLink RJ0 9 "java/lang/String" "value" "[B") (by decide +kernel)) (fun _ h9 => h9) dJ0_length_8abf5_1 ?_
  refine va_tlen (v := 12) hx hb hE.2.2.2.2.1 hS (by decide) dJ0_length_8abf5_4 ?_
  refine lv_aload_n hx hb dJ0_length_8abf5_5 rfl (lv_at hl 0 rfl) ?_
  have hPc := hP.sub (ws' := []) [] rfl
  have hDc := hD.sub (ws' := []) [] (by decide) rfl
  have hKc := hK.sub (tys' := []) [] rfl
  have hFc := va_free (wc := []) hD hS hA [] rfl
  refine vx_calli (vx_runV (As := []) (rest := [.int 12]) ⟨hx, hb, hml, hown, hts⟩ (k_J0_coder_7d493 l hfl dC dI gS gB s.heap.size) (cwV 0 hts gJ0_length_8abf5_J0_coder_7d493 rfl rfl rfl (by decide +kernel) ⟨Nat.le_of_ble_eq_true rfl, Nat.le_of_ble_eq_true rfl⟩) ⟨fun a U g mk q => by obtain ⟨q0, q1, qE, qP, qK, qD⟩ := q; exact ⟨q0, q1, LE.calling qE, qP, va_K.moved (u := U) (U := U.calling g mk a) (Vm.Alike.refl U.vm) qK, qD⟩, va_Orecv hE.2.1 hS, fun U hU hW => ⟨rfl, by rw [hU], LE.to hE hS hU hW (fun q h => hFc q h), by rw [hU]; exact hPc, va_K.moved hW.alike hKc, hDc.weaken (fun _ _ _ _ => trivial)⟩⟩ rfl rfl hl.1 rfl (lv_room (Nat.le_of_ble_eq_true rfl)) dJ0_length_8abf5_6 ⟨(Nat.le_of_ble_eq_true rfl), (Nat.le_of_ble_eq_true rfl)⟩) hS (fun q _ h => hFc q h) hFc (fun q _ h => hFc q h) (fun E9 ce9 q9 u9 t9 H1 locs ht hvm hw hB hz1 hk1 hS hc9 hv9 hcl9 => ?_) (fun r1 u t H1 locs ht hvm hw hB hz1 hk1 hS => ?_)
  · exact hB.elim
  · skip
    obtain ⟨hP1, hK1, hD1⟩ := hB
    rw [ht] at hP1
    have hK1 := va_K.moved hvm.symm hK1
    try dsimp only at hw
    have hP1 : va_P (dC, dI) vwCl [] H1 := hP1
    obtain ⟨hP, hD⟩ := va_join (wr := []) hP hD [] [] rfl rfl (by decide) (by decide) hk1 hFc hP1 hD1
    have hK := (hK.sub (tys' := []) [] rfl).app hK1
    generalize H1 = H at hP hS ⊢
    have hP : va_P (dC, dI) vwCl [] H := hP
    have hD : va_D A [] := hD
    have hK : va_K (dC, dI) vwCl [] s := hK.sub (tys' := []) [] rfl
    obtain rfl : r1 = (0 : Int32) := hw
    refine lv_ishr hx hb dJ0_length_8abf5_9 ?_
    refine lv_topi (fun x2 ex2 => ?_)
    obtain rfl : x2 = (12 : Int32) := ex2.trans (by decide)
    refine W.widen (k := 0) (n := 0) (by decide) (by decide) ?_
    refine vx_ret ?_
    have hP9 := hP.sub (ws' := []) [] rfl
    have hD9 := hD.sub (ws' := []) [] (by decide) rfl
    have hK9 := hK.sub (tys' := []) [] rfl
    exact W.iret (v := 12) hx hb hr (fun t ht hW => ⟨⟨12, (), rfl, rfl, by rw [ht]; exact hP9, va_K.moved hW.alike hK9, hD9⟩, hS.F ht⟩) hS.2.2 dJ0_length_8abf5_10
set_option maxHeartbeats 4000000 in
set_option maxRecDepth 100000 in
theorem k_J1_canEncode_9a6ad (l : Launch) (hfl : l.stackTraces = false) (dC : Nat → ClassId) (dI : Nat → Nat → Nat) (gS gB sz : Nat) (p0 : Int32) : vx_Met l yJ1_canEncode_9a6ad wsJ1_canEncode_9a6ad ({ frames := 1, cells := 0, slots := 0, locals := 12 }) (va_Pc [.int p0] (fun U => U.heap.size = sz ∧ LE gS gB (va_A [] sz) U ∧ va_P (dC, dI) vwCl [] U.heap ∧ va_K (dC, dI) vwCl [] U ∧ va_D (fun _ => True) [])) (va_Qi (fun (r : Int32) (u : Unit) => r = inC p0 0 255) (fun (u : Unit) (t : State) => va_P (dC, dI) vwCl [] t.heap ∧ va_K (dC, dI) vwCl [] t ∧ va_D (va_A [] sz) []) (va_A [] sz)) (vx_X (fun _ : Unit => True) (fun (E : String) (_ : Unit) (_ : State) => False) (va_A [] sz)) 0 0 (va_A [] sz) := by
  refine vx_ofW (cc := cJ1_canEncode_9a6ad) (maxL := 1) (ret := (some .boolean)) (by decide) rfl ?_
  intro p e s m args below meth c s₁ B hml htab hv
  obtain ⟨rfl, hsz, hE, hP, hK, hD0⟩ := hv
  have hx := B.exec
  have hb := B.bytes
  have hr := B.returns
  have hts := atoms_spec (ws := wsJ1_canEncode_9a6ad) B.pre
  have hown : s.vm.findClass RJ1 = some m.cls := findClass_of_methodNamed B.named
  have hlocks := B.notSynchronized
  have hout9 : ∀ (pc9 : Nat), ∀ x ∈ c.exceptionTable.toList, covers x pc9 = false := fun _ x hx9 => (htab x hx9).elim
  subst hsz
  have hD := hD0.self (sz := s.heap.size)
  generalize hAe : va_A [] s.heap.size = A at hD hE ⊢
  have hA : ∀ q : Nat, s.heap.size ≤ q → A q := fun q h => by rw [← hAe]; exact Or.inr h
  have hS : va_S A s.heap s.heap [] := va_S.rf
  have hP : va_P (dC, dI) vwCl [] s.heap := hP
  have hl := lv_entry ([.int p0]) (n := 1) (Nat.le_of_ble_eq_true rfl)
  rw [lg_entry_eq]
  generalize (lg_sl ([.int p0]) ++ List.replicate (1 - (lg_sl ([.int p0])).length) Slot.unset).toArray = ls at hl ⊢
  have hl : lv_has ls 1 [(0, .int p0)] := hl
  refine lv_iload_n hx hb dJ1_canEncode_9a6ad_0 rfl (lv_at hl 0 rfl) ?_
  refine lv_if_lt (tgt := 15) hx hb dJ1_canEncode_9a6ad_1 (by decide) (fun cz1 => ?_) (fun cz1 => ?_)
  · skip
    refine lv_iconst (v := 0) hx hb dJ1_canEncode_9a6ad_15 (by decide) ?_
    refine W.widen (k := 0) (n := 0) (by decide) (by decide) ?_
    refine vx_ret ?_
    have hP9 := hP.sub (ws' := []) [] rfl
    have hD9 := hD.sub (ws' := []) [] (by decide) rfl
    have hK9 := hK.sub (tys' := []) [] rfl
    exact W.zret (v := 0) hx hb hr (by decide) (fun t ht hW => ⟨⟨0, (), rfl, by simp [inC, cz1], by rw [ht]; exact hP9, va_K.moved hW.alike hK9, hD9⟩, hS.F ht⟩) hS.2.2 dJ1_canEncode_9a6ad_16
  · skip
    refine lv_iload_n hx hb dJ1_canEncode_9a6ad_4 rfl (lv_at hl 0 rfl) ?_
    refine lv_sipush (v := 255) hx hb dJ1_canEncode_9a6ad_5 (by decide) ?_
    refine lv_icmp_gt (tgt := 15) hx hb dJ1_canEncode_9a6ad_8 (by decide) (fun cz2 => ?_) (fun cz2 => ?_)
    · skip
      refine lv_iconst (v := 0) hx hb dJ1_canEncode_9a6ad_15 (by decide) ?_
      refine W.widen (k := 0) (n := 0) (by decide) (by decide) ?_
      refine vx_ret ?_
      have hP9 := hP.sub (ws' := []) [] rfl
      have hD9 := hD.sub (ws' := []) [] (by decide) rfl
      have hK9 := hK.sub (tys' := []) [] rfl
      exact W.zret (v := 0) hx hb hr (by decide) (fun t ht hW => ⟨⟨0, (), rfl, by simp [inC, cz1, cz2], by rw [ht]; exact hP9, va_K.moved hW.alike hK9, hD9⟩, hS.F ht⟩) hS.2.2 dJ1_canEncode_9a6ad_16
    · skip
      refine lv_iconst (v := 1) hx hb dJ1_canEncode_9a6ad_11 (by decide) ?_
      refine lv_goto (tgt := 16) hx hb dJ1_canEncode_9a6ad_12 (by decide) ?_
      refine W.widen (k := 0) (n := 0) (by decide) (by decide) ?_
      refine vx_ret ?_
      have hP9 := hP.sub (ws' := []) [] rfl
      have hD9 := hD.sub (ws' := []) [] (by decide) rfl
      have hK9 := hK.sub (tys' := []) [] rfl
      exact W.zret (v := 1) hx hb hr (by decide) (fun t ht hW => ⟨⟨1, (), rfl, by simp [inC, cz1, cz2], by rw [ht]; exact hP9, va_K.moved hW.alike hK9, hD9⟩, hS.F ht⟩) hS.2.2 dJ1_canEncode_9a6ad_16
set_option maxHeartbeats 4000000 in
set_option maxRecDepth 100000 in
theorem k_J1_indexOfChar_4cfef (l : Launch) (hfl : l.stackTraces = false) (dC : Nat → ClassId) (dI : Nat → Nat → Nat) (gS gB sz : Nat) (p0 : Int32) : vx_Met l yJ1_indexOfChar_4cfef wsJ1_indexOfChar_4cfef ({ frames := 1, cells := 0, slots := 0, locals := 12 }) (va_Pc [.ref gB, .int p0, .int 0, .int 12] (fun U => U.heap.size = sz ∧ LE gS gB (va_A [] sz) U ∧ va_P (dC, dI) vwCl [] U.heap ∧ va_K (dC, dI) vwCl [] U ∧ va_D (fun _ => True) [])) (va_Qi (fun (r : Int32) (u : Unit) => r = ixC p0.toInt8.toInt32) (fun (u : Unit) (t : State) => va_P (dC, dI) vwCl [] t.heap ∧ va_K (dC, dI) vwCl [] t ∧ va_D (va_A [] sz) []) (va_A [] sz)) (vx_X (fun _ : Unit => True) (fun (E : String) (_ : Unit) (_ : State) => False) (va_A [] sz)) 0 0 (va_A [] sz) := by
  refine vx_ofW (cc := cJ1_indexOfChar_4cfef) (maxL := 6) (ret := (some .int)) (by decide) rfl ?_
  intro p e s m args below meth c s₁ B hml htab hv
  obtain ⟨rfl, hsz, hE, hP, hK, hD0⟩ := hv
  have hx := B.exec
  have hb := B.bytes
  have hr := B.returns
  have hts := atoms_spec (ws := wsJ1_indexOfChar_4cfef) B.pre
  have hown : s.vm.findClass RJ1 = some m.cls := findClass_of_methodNamed B.named
  have hlocks := B.notSynchronized
  have hout9 : ∀ (pc9 : Nat), ∀ x ∈ c.exceptionTable.toList, covers x pc9 = false := fun _ x hx9 => (htab x hx9).elim
  subst hsz
  have hD := hD0.self (sz := s.heap.size)
  generalize hAe : va_A [] s.heap.size = A at hD hE ⊢
  have hA : ∀ q : Nat, s.heap.size ≤ q → A q := fun q h => by rw [← hAe]; exact Or.inr h
  have hS : va_S A s.heap s.heap [] := va_S.rf
  have hP : va_P (dC, dI) vwCl [] s.heap := hP
  have hl := lv_entry ([.ref gB, .int p0, .int 0, .int 12]) (n := 6) (Nat.le_of_ble_eq_true rfl)
  rw [lg_entry_eq]
  generalize (lg_sl ([.ref gB, .int p0, .int 0, .int 12]) ++ List.replicate (6 - (lg_sl ([.ref gB, .int p0, .int 0, .int 12])).length) Slot.unset).toArray = ls at hl ⊢
  have hl : lv_has ls 6 [(0, .ref gB), (1, .int p0), (2, .int 0), (3, .int 12)] := hl
  refine lv_iload_n hx hb dJ1_indexOfChar_4cfef_0 rfl (lv_at hl 1 rfl) ?_
  refine lv_i2b (v := (p0.toInt8.toInt32)) hx hb dJ1_indexOfChar_4cfef_1 rfl ?_
  refine lv_istore (lv' := [(4, .int (p0.toInt8.toInt32)), (0, .ref gB), (1, .int p0), (2, .int 0), (3, .int 12)]) hx hb dJ1_indexOfChar_4cfef_2 hl (by decide) rfl (fun ls hl => ?_)
  refine lv_iload_n hx hb dJ1_indexOfChar_4cfef_4 rfl (lv_at hl 3 rfl) ?_
  refine lv_istore (lv' := [(5, .int 0), (4, .int (p0.toInt8.toInt32)), (0, .ref gB), (1, .int p0), (2, .int 0), (3, .int 12)]) hx hb dJ1_indexOfChar_4cfef_5 hl (by decide) rfl (fun ls hl => ?_)
  refine lv_iload hx hb dJ1_indexOfChar_4cfef_7 (lv_at hl 0 rfl) ?_
  refine lv_iload_n hx hb dJ1_indexOfChar_4cfef_9 rfl (lv_at hl 5 rfl) ?_
  refine lv_icmp_ge (tgt := 31) hx hb dJ1_indexOfChar_4cfef_10 (by decide) (fun cz1 => ?_) (fun cz1 => ?_)
  · exact absurd cz1 (by decide)
  · skip
    refine lv_aload_n hx hb dJ1_indexOfChar_4cfef_13 rfl (lv_at hl 2 rfl) ?_
    refine lv_iload hx hb dJ1_indexOfChar_4cfef_14 (lv_at hl 0 rfl) ?_
    refine va_tb (v := .int 110) hx hb hE.2.2.2.2.1 hS (by unfold vp_in; decide) rfl dJ1_indexOfChar_4cfef_16 ?_
    refine lv_iload hx hb dJ1_indexOfChar_4cfef_17 (lv_at hl 1 rfl) ?_
    refine lv_icmp_ne (tgt := 25) hx hb dJ1_indexOfChar_4cfef_19 (by decide) (fun cz2 => ?_) (fun cz2 => ?_)
    · skip
      refine lv_iinc (v := 1) (lv' := [(5, .int 1), (4, .int (p0.toInt8.toInt32)), (0, .ref gB), (1, .int p0), (2, .int 0), (3, .int 12)]) hx hb dJ1_indexOfChar_4cfef_25 hl (k := 0) rfl (by decide) (by decide) rfl (fun ls hl => ?_)
      refine lv_goto (tgt := 7) hx hb dJ1_indexOfChar_4cfef_28 (by decide) ?_
      refine lv_iload hx hb dJ1_indexOfChar_4cfef_7 (lv_at hl 0 rfl) ?_
      refine lv_iload_n hx hb dJ1_indexOfChar_4cfef_9 rfl (lv_at hl 5 rfl) ?_
      refine lv_icmp_ge (tgt := 31) hx hb dJ1_indexOfChar_4cfef_10 (by decide) (fun cz3 => ?_) (fun cz3 => ?_)
      · exact absurd cz3 (by decide)
      · skip
        refine lv_aload_n hx hb dJ1_indexOfChar_4cfef_13 rfl (lv_at hl 2 rfl) ?_
        refine lv_iload hx hb dJ1_indexOfChar_4cfef_14 (lv_at hl 0 rfl) ?_
        refine va_tb (v := .int 105) hx hb hE.2.2.2.2.1 hS (by unfold vp_in; decide) rfl dJ1_indexOfChar_4cfef_16 ?_
        refine lv_iload hx hb dJ1_indexOfChar_4cfef_17 (lv_at hl 1 rfl) ?_
        refine lv_icmp_ne (tgt := 25) hx hb dJ1_indexOfChar_4cfef_19 (by decide) (fun cz4 => ?_) (fun cz4 => ?_)
        · skip
          refine lv_iinc (v := 2) (lv' := [(5, .int 2), (4, .int (p0.toInt8.toInt32)), (0, .ref gB), (1, .int p0), (2, .int 0), (3, .int 12)]) hx hb dJ1_indexOfChar_4cfef_25 hl (k := 0) rfl (by decide) (by decide) rfl (fun ls hl => ?_)
          refine lv_goto (tgt := 7) hx hb dJ1_indexOfChar_4cfef_28 (by decide) ?_
          refine lv_iload hx hb dJ1_indexOfChar_4cfef_7 (lv_at hl 0 rfl) ?_
          refine lv_iload_n hx hb dJ1_indexOfChar_4cfef_9 rfl (lv_at hl 5 rfl) ?_
          refine lv_icmp_ge (tgt := 31) hx hb dJ1_indexOfChar_4cfef_10 (by decide) (fun cz5 => ?_) (fun cz5 => ?_)
          · exact absurd cz5 (by decide)
          · skip
            refine lv_aload_n hx hb dJ1_indexOfChar_4cfef_13 rfl (lv_at hl 2 rfl) ?_
            refine lv_iload hx hb dJ1_indexOfChar_4cfef_14 (lv_at hl 0 rfl) ?_
            refine va_tb (v := .int 43) hx hb hE.2.2.2.2.1 hS (by unfold vp_in; decide) rfl dJ1_indexOfChar_4cfef_16 ?_
            refine lv_iload hx hb dJ1_indexOfChar_4cfef_17 (lv_at hl 1 rfl) ?_
            refine lv_icmp_ne (tgt := 25) hx hb dJ1_indexOfChar_4cfef_19 (by decide) (fun cz6 => ?_) (fun cz6 => ?_)
            · skip
              refine lv_iinc (v := 3) (lv' := [(5, .int 3), (4, .int (p0.toInt8.toInt32)), (0, .ref gB), (1, .int p0), (2, .int 0), (3, .int 12)]) hx hb dJ1_indexOfChar_4cfef_25 hl (k := 0) rfl (by decide) (by decide) rfl (fun ls hl => ?_)
              refine lv_goto (tgt := 7) hx hb dJ1_indexOfChar_4cfef_28 (by decide) ?_
              refine lv_iload hx hb dJ1_indexOfChar_4cfef_7 (lv_at hl 0 rfl) ?_
              refine lv_iload_n hx hb dJ1_indexOfChar_4cfef_9 rfl (lv_at hl 5 rfl) ?_
              refine lv_icmp_ge (tgt := 31) hx hb dJ1_indexOfChar_4cfef_10 (by decide) (fun cz7 => ?_) (fun cz7 => ?_)
              · exact absurd cz7 (by decide)
              · skip
                refine lv_aload_n hx hb dJ1_indexOfChar_4cfef_13 rfl (lv_at hl 2 rfl) ?_
                refine lv_iload hx hb dJ1_indexOfChar_4cfef_14 (lv_at hl 0 rfl) ?_
                refine va_tb (v := .int 45) hx hb hE.2.2.2.2.1 hS (by unfold vp_in; decide) rfl dJ1_indexOfChar_4cfef_16 ?_
                refine lv_iload hx hb dJ1_indexOfChar_4cfef_17 (lv_at hl 1 rfl) ?_
                refine lv_icmp_ne (tgt := 25) hx hb dJ1_indexOfChar_4cfef_19 (by decide) (fun cz8 => ?_) (fun cz8 => ?_)
                · skip
                  refine lv_iinc (v := 4) (lv' := [(5, .int 4), (4, .int (p0.toInt8.toInt32)), (0, .ref gB), (1, .int p0), (2, .int 0), (3, .int 12)]) hx hb dJ1_indexOfChar_4cfef_25 hl (k := 0) rfl (by decide) (by decide) rfl (fun ls hl => ?_)
                  refine lv_goto (tgt := 7) hx hb dJ1_indexOfChar_4cfef_28 (by decide) ?_
                  refine lv_iload hx hb dJ1_indexOfChar_4cfef_7 (lv_at hl 0 rfl) ?_
                  refine lv_iload_n hx hb dJ1_indexOfChar_4cfef_9 rfl (lv_at hl 5 rfl) ?_
                  refine lv_icmp_ge (tgt := 31) hx hb dJ1_indexOfChar_4cfef_10 (by decide) (fun cz9 => ?_) (fun cz9 => ?_)
                  · exact absurd cz9 (by decide)
                  · skip
                    refine lv_aload_n hx hb dJ1_indexOfChar_4cfef_13 rfl (lv_at hl 2 rfl) ?_
                    refine lv_iload hx hb dJ1_indexOfChar_4cfef_14 (lv_at hl 0 rfl) ?_
                    refine va_tb (v := .int 42) hx hb hE.2.2.2.2.1 hS (by unfold vp_in; decide) rfl dJ1_indexOfChar_4cfef_16 ?_
                    refine lv_iload hx hb dJ1_indexOfChar_4cfef_17 (lv_at hl 1 rfl) ?_
                    refine lv_icmp_ne (tgt := 25) hx hb dJ1_indexOfChar_4cfef_19 (by decide) (fun cz10 => ?_) (fun cz10 => ?_)
                    · skip
                      refine lv_iinc (v := 5) (lv' := [(5, .int 5), (4, .int (p0.toInt8.toInt32)), (0, .ref gB), (1, .int p0), (2, .int 0), (3, .int 12)]) hx hb dJ1_indexOfChar_4cfef_25 hl (k := 0) rfl (by decide) (by decide) rfl (fun ls hl => ?_)
                      refine lv_goto (tgt := 7) hx hb dJ1_indexOfChar_4cfef_28 (by decide) ?_
                      refine lv_iload hx hb dJ1_indexOfChar_4cfef_7 (lv_at hl 0 rfl) ?_
                      refine lv_iload_n hx hb dJ1_indexOfChar_4cfef_9 rfl (lv_at hl 5 rfl) ?_
                      refine lv_icmp_ge (tgt := 31) hx hb dJ1_indexOfChar_4cfef_10 (by decide) (fun cz11 => ?_) (fun cz11 => ?_)
                      · exact absurd cz11 (by decide)
                      · skip
                        refine lv_aload_n hx hb dJ1_indexOfChar_4cfef_13 rfl (lv_at hl 2 rfl) ?_
                        refine lv_iload hx hb dJ1_indexOfChar_4cfef_14 (lv_at hl 0 rfl) ?_
                        refine va_tb (v := .int 37) hx hb hE.2.2.2.2.1 hS (by unfold vp_in; decide) rfl dJ1_indexOfChar_4cfef_16 ?_
                        refine lv_iload hx hb dJ1_indexOfChar_4cfef_17 (lv_at hl 1 rfl) ?_
                        refine lv_icmp_ne (tgt := 25) hx hb dJ1_indexOfChar_4cfef_19 (by decide) (fun cz12 => ?_) (fun cz12 => ?_)
                        · skip
                          refine lv_iinc (v := 6) (lv' := [(5, .int 6), (4, .int (p0.toInt8.toInt32)), (0, .ref gB), (1, .int p0), (2, .int 0), (3, .int 12)]) hx hb dJ1_indexOfChar_4cfef_25 hl (k := 0) rfl (by decide) (by decide) rfl (fun ls hl => ?_)
                          refine lv_goto (tgt := 7) hx hb dJ1_indexOfChar_4cfef_28 (by decide) ?_
                          refine lv_iload hx hb dJ1_indexOfChar_4cfef_7 (lv_at hl 0 rfl) ?_
                          refine lv_iload_n hx hb dJ1_indexOfChar_4cfef_9 rfl (lv_at hl 5 rfl) ?_
                          refine lv_icmp_ge (tgt := 31) hx hb dJ1_indexOfChar_4cfef_10 (by decide) (fun cz13 => ?_) (fun cz13 => ?_)
                          · exact absurd cz13 (by decide)
                          · skip
                            refine lv_aload_n hx hb dJ1_indexOfChar_4cfef_13 rfl (lv_at hl 2 rfl) ?_
                            refine lv_iload hx hb dJ1_indexOfChar_4cfef_14 (lv_at hl 0 rfl) ?_
                            refine va_tb (v := .int 100) hx hb hE.2.2.2.2.1 hS (by unfold vp_in; decide) rfl dJ1_indexOfChar_4cfef_16 ?_
                            refine lv_iload hx hb dJ1_indexOfChar_4cfef_17 (lv_at hl 1 rfl) ?_
                            refine lv_icmp_ne (tgt := 25) hx hb dJ1_indexOfChar_4cfef_19 (by decide) (fun cz14 => ?_) (fun cz14 => ?_)
                            · skip
                              refine lv_iinc (v := 7) (lv' := [(5, .int 7), (4, .int (p0.toInt8.toInt32)), (0, .ref gB), (1, .int p0), (2, .int 0), (3, .int 12)]) hx hb dJ1_indexOfChar_4cfef_25 hl (k := 0) rfl (by decide) (by decide) rfl (fun ls hl => ?_)
                              refine lv_goto (tgt := 7) hx hb dJ1_indexOfChar_4cfef_28 (by decide) ?_
                              refine lv_iload hx hb dJ1_indexOfChar_4cfef_7 (lv_at hl 0 rfl) ?_
                              refine lv_iload_n hx hb dJ1_indexOfChar_4cfef_9 rfl (lv_at hl 5 rfl) ?_
                              refine lv_icmp_ge (tgt := 31) hx hb dJ1_indexOfChar_4cfef_10 (by decide) (fun cz15 => ?_) (fun cz15 => ?_)
                              · exact absurd cz15 (by decide)
                              · skip
                                refine lv_aload_n hx hb dJ1_indexOfChar_4cfef_13 rfl (lv_at hl 2 rfl) ?_
                                refine lv_iload hx hb dJ1_indexOfChar_4cfef_14 (lv_at hl 0 rfl) ?_
                                refine va_tb (v := .int 115) hx hb hE.2.2.2.2.1 hS (by unfold vp_in; decide) rfl dJ1_indexOfChar_4cfef_16 ?_
                                refine lv_iload hx hb dJ1_indexOfChar_4cfef_17 (lv_at hl 1 rfl) ?_
                                refine lv_icmp_ne (tgt := 25) hx hb dJ1_indexOfChar_4cfef_19 (by decide) (fun cz16 => ?_) (fun cz16 => ?_)
                                · skip
                                  refine lv_iinc (v := 8) (lv' := [(5, .int 8), (4, .int (p0.toInt8.toInt32)), (0, .ref gB), (1, .int p0), (2, .int 0), (3, .int 12)]) hx hb dJ1_indexOfChar_4cfef_25 hl (k := 0) rfl (by decide) (by decide) rfl (fun ls hl => ?_)
                                  refine lv_goto (tgt := 7) hx hb dJ1_indexOfChar_4cfef_28 (by decide) ?_
                                  refine lv_iload hx hb dJ1_indexOfChar_4cfef_7 (lv_at hl 0 rfl) ?_
                                  refine lv_iload_n hx hb dJ1_indexOfChar_4cfef_9 rfl (lv_at hl 5 rfl) ?_
                                  refine lv_icmp_ge (tgt := 31) hx hb dJ1_indexOfChar_4cfef_10 (by decide) (fun cz17 => ?_) (fun cz17 => ?_)
                                  · exact absurd cz17 (by decide)
                                  · skip
                                    refine lv_aload_n hx hb dJ1_indexOfChar_4cfef_13 rfl (lv_at hl 2 rfl) ?_
                                    refine lv_iload hx hb dJ1_indexOfChar_4cfef_14 (lv_at hl 0 rfl) ?_
                                    refine va_tb (v := .int 112) hx hb hE.2.2.2.2.1 hS (by unfold vp_in; decide) rfl dJ1_indexOfChar_4cfef_16 ?_
                                    refine lv_iload hx hb dJ1_indexOfChar_4cfef_17 (lv_at hl 1 rfl) ?_
                                    refine lv_icmp_ne (tgt := 25) hx hb dJ1_indexOfChar_4cfef_19 (by decide) (fun cz18 => ?_) (fun cz18 => ?_)
                                    · skip
                                      refine lv_iinc (v := 9) (lv' := [(5, .int 9), (4, .int (p0.toInt8.toInt32)), (0, .ref gB), (1, .int p0), (2, .int 0), (3, .int 12)]) hx hb dJ1_indexOfChar_4cfef_25 hl (k := 0) rfl (by decide) (by decide) rfl (fun ls hl => ?_)
                                      refine lv_goto (tgt := 7) hx hb dJ1_indexOfChar_4cfef_28 (by decide) ?_
                                      refine lv_iload hx hb dJ1_indexOfChar_4cfef_7 (lv_at hl 0 rfl) ?_
                                      refine lv_iload_n hx hb dJ1_indexOfChar_4cfef_9 rfl (lv_at hl 5 rfl) ?_
                                      refine lv_icmp_ge (tgt := 31) hx hb dJ1_indexOfChar_4cfef_10 (by decide) (fun cz19 => ?_) (fun cz19 => ?_)
                                      · exact absurd cz19 (by decide)
                                      · skip
                                        refine lv_aload_n hx hb dJ1_indexOfChar_4cfef_13 rfl (lv_at hl 2 rfl) ?_
                                        refine lv_iload hx hb dJ1_indexOfChar_4cfef_14 (lv_at hl 0 rfl) ?_
                                        refine va_tb (v := .int 111) hx hb hE.2.2.2.2.1 hS (by unfold vp_in; decide) rfl dJ1_indexOfChar_4cfef_16 ?_
                                        refine lv_iload hx hb dJ1_indexOfChar_4cfef_17 (lv_at hl 1 rfl) ?_
                                        refine lv_icmp_ne (tgt := 25) hx hb dJ1_indexOfChar_4cfef_19 (by decide) (fun cz20 => ?_) (fun cz20 => ?_)
                                        · skip
                                          refine lv_iinc (v := 10) (lv' := [(5, .int 10), (4, .int (p0.toInt8.toInt32)), (0, .ref gB), (1, .int p0), (2, .int 0), (3, .int 12)]) hx hb dJ1_indexOfChar_4cfef_25 hl (k := 0) rfl (by decide) (by decide) rfl (fun ls hl => ?_)
                                          refine lv_goto (tgt := 7) hx hb dJ1_indexOfChar_4cfef_28 (by decide) ?_
                                          refine lv_iload hx hb dJ1_indexOfChar_4cfef_7 (lv_at hl 0 rfl) ?_
                                          refine lv_iload_n hx hb dJ1_indexOfChar_4cfef_9 rfl (lv_at hl 5 rfl) ?_
                                          refine lv_icmp_ge (tgt := 31) hx hb dJ1_indexOfChar_4cfef_10 (by decide) (fun cz21 => ?_) (fun cz21 => ?_)
                                          · exact absurd cz21 (by decide)
                                          · skip
                                            refine lv_aload_n hx hb dJ1_indexOfChar_4cfef_13 rfl (lv_at hl 2 rfl) ?_
                                            refine lv_iload hx hb dJ1_indexOfChar_4cfef_14 (lv_at hl 0 rfl) ?_
                                            refine va_tb (v := .int 91) hx hb hE.2.2.2.2.1 hS (by unfold vp_in; decide) rfl dJ1_indexOfChar_4cfef_16 ?_
                                            refine lv_iload hx hb dJ1_indexOfChar_4cfef_17 (lv_at hl 1 rfl) ?_
                                            refine lv_icmp_ne (tgt := 25) hx hb dJ1_indexOfChar_4cfef_19 (by decide) (fun cz22 => ?_) (fun cz22 => ?_)
                                            · skip
                                              refine lv_iinc (v := 11) (lv' := [(5, .int 11), (4, .int (p0.toInt8.toInt32)), (0, .ref gB), (1, .int p0), (2, .int 0), (3, .int 12)]) hx hb dJ1_indexOfChar_4cfef_25 hl (k := 0) rfl (by decide) (by decide) rfl (fun ls hl => ?_)
                                              refine lv_goto (tgt := 7) hx hb dJ1_indexOfChar_4cfef_28 (by decide) ?_
                                              refine lv_iload hx hb dJ1_indexOfChar_4cfef_7 (lv_at hl 0 rfl) ?_
                                              refine lv_iload_n hx hb dJ1_indexOfChar_4cfef_9 rfl (lv_at hl 5 rfl) ?_
                                              refine lv_icmp_ge (tgt := 31) hx hb dJ1_indexOfChar_4cfef_10 (by decide) (fun cz23 => ?_) (fun cz23 => ?_)
                                              · exact absurd cz23 (by decide)
                                              · skip
                                                refine lv_aload_n hx hb dJ1_indexOfChar_4cfef_13 rfl (lv_at hl 2 rfl) ?_
                                                refine lv_iload hx hb dJ1_indexOfChar_4cfef_14 (lv_at hl 0 rfl) ?_
                                                refine va_tb (v := .int 93) hx hb hE.2.2.2.2.1 hS (by unfold vp_in; decide) rfl dJ1_indexOfChar_4cfef_16 ?_
                                                refine lv_iload hx hb dJ1_indexOfChar_4cfef_17 (lv_at hl 1 rfl) ?_
                                                refine lv_icmp_ne (tgt := 25) hx hb dJ1_indexOfChar_4cfef_19 (by decide) (fun cz24 => ?_) (fun cz24 => ?_)
                                                · skip
                                                  refine lv_iinc (v := 12) (lv' := [(5, .int 12), (4, .int (p0.toInt8.toInt32)), (0, .ref gB), (1, .int p0), (2, .int 0), (3, .int 12)]) hx hb dJ1_indexOfChar_4cfef_25 hl (k := 0) rfl (by decide) (by decide) rfl (fun ls hl => ?_)
                                                  refine lv_goto (tgt := 7) hx hb dJ1_indexOfChar_4cfef_28 (by decide) ?_
                                                  refine lv_iload hx hb dJ1_indexOfChar_4cfef_7 (lv_at hl 0 rfl) ?_
                                                  refine lv_iload_n hx hb dJ1_indexOfChar_4cfef_9 rfl (lv_at hl 5 rfl) ?_
                                                  refine lv_icmp_ge (tgt := 31) hx hb dJ1_indexOfChar_4cfef_10 (by decide) (fun cz25 => ?_) (fun cz25 => ?_)
                                                  · skip
                                                    refine lv_iconst (v := (-1)) hx hb dJ1_indexOfChar_4cfef_31 (by decide) ?_
                                                    refine W.widen (k := 0) (n := 0) (by decide) (by decide) ?_
                                                    refine vx_ret ?_
                                                    have hP9 := hP.sub (ws' := []) [] rfl
                                                    have hD9 := hD.sub (ws' := []) [] (by decide) rfl
                                                    have hK9 := hK.sub (tys' := []) [] rfl
                                                    exact W.iret (v := (-1)) hx hb hr (fun t ht hW => ⟨⟨(-1), (), rfl, by simp [ixC, cz1, cz2, cz3, cz4, cz5, cz6, cz7, cz8, cz9, cz10, cz11, cz12, cz13, cz14, cz15, cz16, cz17, cz18, cz19, cz20, cz21, cz22, cz23, cz24, cz25], by rw [ht]; exact hP9, va_K.moved hW.alike hK9, hD9⟩, hS.F ht⟩) hS.2.2 dJ1_indexOfChar_4cfef_32
                                                  · exact absurd (by decide) cz25
                                                · skip
                                                  refine lv_iload hx hb dJ1_indexOfChar_4cfef_22 (lv_at hl 0 rfl) ?_
                                                  refine W.widen (k := 0) (n := 0) (by decide) (by decide) ?_
                                                  refine vx_ret ?_
                                                  have hP9 := hP.sub (ws' := []) [] rfl
                                                  have hD9 := hD.sub (ws' := []) [] (by decide) rfl
                                                  have hK9 := hK.sub (tys' := []) [] rfl
                                                  exact W.iret (v := 11) hx hb hr (fun t ht hW => ⟨⟨11, (), rfl, by simp [ixC, cz1, cz2, cz3, cz4, cz5, cz6, cz7, cz8, cz9, cz10, cz11, cz12, cz13, cz14, cz15, cz16, cz17, cz18, cz19, cz20, cz21, cz22, cz23, cz24], by rw [ht]; exact hP9, va_K.moved hW.alike hK9, hD9⟩, hS.F ht⟩) hS.2.2 dJ1_indexOfChar_4cfef_24
                                            · skip
                                              refine lv_iload hx hb dJ1_indexOfChar_4cfef_22 (lv_at hl 0 rfl) ?_
                                              refine W.widen (k := 0) (n := 0) (by decide) (by decide) ?_
                                              refine vx_ret ?_
                                              have hP9 := hP.sub (ws' := []) [] rfl
                                              have hD9 := hD.sub (ws' := []) [] (by decide) rfl
                                              have hK9 := hK.sub (tys' := []) [] rfl
                                              exact W.iret (v := 10) hx hb hr (fun t ht hW => ⟨⟨10, (), rfl, by simp [ixC, cz1, cz2, cz3, cz4, cz5, cz6, cz7, cz8, cz9, cz10, cz11, cz12, cz13, cz14, cz15, cz16, cz17, cz18, cz19, cz20, cz21, cz22], by rw [ht]; exact hP9, va_K.moved hW.alike hK9, hD9⟩, hS.F ht⟩) hS.2.2 dJ1_indexOfChar_4cfef_24
                                        · skip
                                          refine lv_iload hx hb dJ1_indexOfChar_4cfef_22 (lv_at hl 0 rfl) ?_
                                          refine W.widen (k := 0) (n := 0) (by decide) (by decide) ?_
                                          refine vx_ret ?_
                                          have hP9 := hP.sub (ws' := []) [] rfl
                                          have hD9 := hD.sub (ws' := []) [] (by decide) rfl
                                          have hK9 := hK.sub (tys' := []) [] rfl
                                          exact W.iret (v := 9) hx hb hr (fun t ht hW => ⟨⟨9, (), rfl, by simp [ixC, cz1, cz2, cz3, cz4, cz5, cz6, cz7, cz8, cz9, cz10, cz11, cz12, cz13, cz14, cz15, cz16, cz17, cz18, cz19, cz20], by rw [ht]; exact hP9, va_K.moved hW.alike hK9, hD9⟩, hS.F ht⟩) hS.2.2 dJ1_indexOfChar_4cfef_24
                                    · skip
                                      refine lv_iload hx hb dJ1_indexOfChar_4cfef_22 (lv_at hl 0 rfl) ?_
                                      refine W.widen (k := 0) (n := 0) (by decide) (by decide) ?_
                                      refine vx_ret ?_
                                      have hP9 := hP.sub (ws' := []) [] rfl
                                      have hD9 := hD.sub (ws' := []) [] (by decide) rfl
                                      have hK9 := hK.sub (tys' := []) [] rfl
                                      exact W.iret (v := 8) hx hb hr (fun t ht hW => ⟨⟨8, (), rfl, by simp [ixC, cz1, cz2, cz3, cz4, cz5, cz6, cz7, cz8, cz9, cz10, cz11, cz12, cz13, cz14, cz15, cz16, cz17, cz18], by rw [ht]; exact hP9, va_K.moved hW.alike hK9, hD9⟩, hS.F ht⟩) hS.2.2 dJ1_indexOfChar_4cfef_24
                                · skip
                                  refine lv_iload hx hb dJ1_indexOfChar_4cfef_22 (lv_at hl 0 rfl) ?_
                                  refine W.widen (k := 0) (n := 0) (by decide) (by decide) ?_
                                  refine vx_ret ?_
                                  have hP9 := hP.sub (ws' := []) [] rfl
                                  have hD9 := hD.sub (ws' := []) [] (by decide) rfl
                                  have hK9 := hK.sub (tys' := []) [] rfl
                                  exact W.iret (v := 7) hx hb hr (fun t ht hW => ⟨⟨7, (), rfl, by simp [ixC, cz1, cz2, cz3, cz4, cz5, cz6, cz7, cz8, cz9, cz10, cz11, cz12, cz13, cz14, cz15, cz16], by rw [ht]; exact hP9, va_K.moved hW.alike hK9, hD9⟩, hS.F ht⟩) hS.2.2 dJ1_indexOfChar_4cfef_24
                            · skip
                              refine lv_iload hx hb dJ1_indexOfChar_4cfef_22 (lv_at hl 0 rfl) ?_
                              refine W.widen (k := 0) (n := 0) (by decide) (by decide) ?_
                              refine vx_ret ?_
                              have hP9 := hP.sub (ws' := []) [] rfl
                              have hD9 := hD.sub (ws' := []) [] (by decide) rfl
                              have hK9 := hK.sub (tys' := []) [] rfl
                              exact W.iret (v := 6) hx hb hr (fun t ht hW => ⟨⟨6, (), rfl, by simp [ixC, cz1, cz2, cz3, cz4, cz5, cz6, cz7, cz8, cz9, cz10, cz11, cz12, cz13, cz14], by rw [ht]; exact hP9, va_K.moved hW.alike hK9, hD9⟩, hS.F ht⟩) hS.2.2 dJ1_indexOfChar_4cfef_24
                        · skip
                          refine lv_iload hx hb dJ1_indexOfChar_4cfef_22 (lv_at hl 0 rfl) ?_
                          refine W.widen (k := 0) (n := 0) (by decide) (by decide) ?_
                          refine vx_ret ?_
                          have hP9 := hP.sub (ws' := []) [] rfl
                          have hD9 := hD.sub (ws' := []) [] (by decide) rfl
                          have hK9 := hK.sub (tys' := []) [] rfl
                          exact W.iret (v := 5) hx hb hr (fun t ht hW => ⟨⟨5, (), rfl, by simp [ixC, cz1, cz2, cz3, cz4, cz5, cz6, cz7, cz8, cz9, cz10, cz11, cz12], by rw [ht]; exact hP9, va_K.moved hW.alike hK9, hD9⟩, hS.F ht⟩) hS.2.2 dJ1_indexOfChar_4cfef_24
                    · skip
                      refine lv_iload hx hb dJ1_indexOfChar_4cfef_22 (lv_at hl 0 rfl) ?_
                      refine W.widen (k := 0) (n := 0) (by decide) (by decide) ?_
                      refine vx_ret ?_
                      have hP9 := hP.sub (ws' := []) [] rfl
                      have hD9 := hD.sub (ws' := []) [] (by decide) rfl
                      have hK9 := hK.sub (tys' := []) [] rfl
                      exact W.iret (v := 4) hx hb hr (fun t ht hW => ⟨⟨4, (), rfl, by simp [ixC, cz1, cz2, cz3, cz4, cz5, cz6, cz7, cz8, cz9, cz10], by rw [ht]; exact hP9, va_K.moved hW.alike hK9, hD9⟩, hS.F ht⟩) hS.2.2 dJ1_indexOfChar_4cfef_24
                · skip
                  refine lv_iload hx hb dJ1_indexOfChar_4cfef_22 (lv_at hl 0 rfl) ?_
                  refine W.widen (k := 0) (n := 0) (by decide) (by decide) ?_
                  refine vx_ret ?_
                  have hP9 := hP.sub (ws' := []) [] rfl
                  have hD9 := hD.sub (ws' := []) [] (by decide) rfl
                  have hK9 := hK.sub (tys' := []) [] rfl
                  exact W.iret (v := 3) hx hb hr (fun t ht hW => ⟨⟨3, (), rfl, by simp [ixC, cz1, cz2, cz3, cz4, cz5, cz6, cz7, cz8], by rw [ht]; exact hP9, va_K.moved hW.alike hK9, hD9⟩, hS.F ht⟩) hS.2.2 dJ1_indexOfChar_4cfef_24
            · skip
              refine lv_iload hx hb dJ1_indexOfChar_4cfef_22 (lv_at hl 0 rfl) ?_
              refine W.widen (k := 0) (n := 0) (by decide) (by decide) ?_
              refine vx_ret ?_
              have hP9 := hP.sub (ws' := []) [] rfl
              have hD9 := hD.sub (ws' := []) [] (by decide) rfl
              have hK9 := hK.sub (tys' := []) [] rfl
              exact W.iret (v := 2) hx hb hr (fun t ht hW => ⟨⟨2, (), rfl, by simp [ixC, cz1, cz2, cz3, cz4, cz5, cz6], by rw [ht]; exact hP9, va_K.moved hW.alike hK9, hD9⟩, hS.F ht⟩) hS.2.2 dJ1_indexOfChar_4cfef_24
        · skip
          refine lv_iload hx hb dJ1_indexOfChar_4cfef_22 (lv_at hl 0 rfl) ?_
          refine W.widen (k := 0) (n := 0) (by decide) (by decide) ?_
          refine vx_ret ?_
          have hP9 := hP.sub (ws' := []) [] rfl
          have hD9 := hD.sub (ws' := []) [] (by decide) rfl
          have hK9 := hK.sub (tys' := []) [] rfl
          exact W.iret (v := 1) hx hb hr (fun t ht hW => ⟨⟨1, (), rfl, by simp [ixC, cz1, cz2, cz3, cz4], by rw [ht]; exact hP9, va_K.moved hW.alike hK9, hD9⟩, hS.F ht⟩) hS.2.2 dJ1_indexOfChar_4cfef_24
    · skip
      refine lv_iload hx hb dJ1_indexOfChar_4cfef_22 (lv_at hl 0 rfl) ?_
      refine W.widen (k := 0) (n := 0) (by decide) (by decide) ?_
      refine vx_ret ?_
      have hP9 := hP.sub (ws' := []) [] rfl
      have hD9 := hD.sub (ws' := []) [] (by decide) rfl
      have hK9 := hK.sub (tys' := []) [] rfl
      exact W.iret (v := 0) hx hb hr (fun t ht hW => ⟨⟨0, (), rfl, by simp [ixC, cz1, cz2], by rw [ht]; exact hP9, va_K.moved hW.alike hK9, hD9⟩, hS.F ht⟩) hS.2.2 dJ1_indexOfChar_4cfef_24
set_option maxHeartbeats 4000000 in
set_option maxRecDepth 100000 in
theorem k_J1_indexOf_4cfef (l : Launch) (hfl : l.stackTraces = false) (dC : Nat → ClassId) (dI : Nat → Nat → Nat) (gS gB sz : Nat) (p0 : Int32) : vx_Met l yJ1_indexOf_4cfef wsJ1_indexOf_4cfef ({ frames := 2, cells := 0, slots := 0, locals := 37 }) (va_Pc [.ref gB, .int p0, .int 0, .int 12] (fun U => U.heap.size = sz ∧ LE gS gB (va_A [] sz) U ∧ va_P (dC, dI) vwCl [] U.heap ∧ va_K (dC, dI) vwCl [] U ∧ va_D (fun _ => True) [])) (va_Qi (fun (r : Int32) (u : Unit) => r = ixL p0) (fun (u : Unit) (t : State) => va_P (dC, dI) vwCl [] t.heap ∧ va_K (dC, dI) vwCl [] t ∧ va_D (va_A [] sz) []) (va_A [] sz)) (vx_X (fun _ : Unit => True) (fun (E : String) (_ : Unit) (_ : State) => False) (va_A [] sz)) 0 0 (va_A [] sz) := by
  refine vx_ofW (cc := cJ1_indexOf_4cfef) (maxL := 4) (ret := (some .int)) (by decide) rfl ?_
  intro p e s m args below meth c s₁ B hml htab hv
  obtain ⟨rfl, hsz, hE, hP, hK, hD0⟩ := hv
  have hx := B.exec
  have hb := B.bytes
  have hr := B.returns
  have hts := atoms_spec (ws := wsJ1_indexOf_4cfef) B.pre
  have hown : s.vm.findClass RJ1 = some m.cls := findClass_of_methodNamed B.named
  have hlocks := B.notSynchronized
  have hout9 : ∀ (pc9 : Nat), ∀ x ∈ c.exceptionTable.toList, covers x pc9 = false := fun _ x hx9 => (htab x hx9).elim
  subst hsz
  have hD := hD0.self (sz := s.heap.size)
  generalize hAe : va_A [] s.heap.size = A at hD hE ⊢
  have hA : ∀ q : Nat, s.heap.size ≤ q → A q := fun q h => by rw [← hAe]; exact Or.inr h
  have hS : va_S A s.heap s.heap [] := va_S.rf
  have hP : va_P (dC, dI) vwCl [] s.heap := hP
  have hl := lv_entry ([.ref gB, .int p0, .int 0, .int 12]) (n := 4) (Nat.le_of_ble_eq_true rfl)
  rw [lg_entry_eq]
  generalize (lg_sl ([.ref gB, .int p0, .int 0, .int 12]) ++ List.replicate (4 - (lg_sl ([.ref gB, .int p0, .int 0, .int 12])).length) Slot.unset).toArray = ls at hl ⊢
  have hl : lv_has ls 4 [(0, .ref gB), (1, .int p0), (2, .int 0), (3, .int 12)] := hl
  refine lv_iload_n hx hb dJ1_indexOf_4cfef_0 rfl (lv_at hl 1 rfl) ?_
  have hPc := hP.sub (ws' := []) [] rfl
  have hDc := hD.sub (ws' := []) [] (by decide) rfl
  have hKc := hK.sub (tys' := []) [] rfl
  have hFc := va_free (wc := []) hD hS hA [] rfl
  refine vx_calli (vx_runS (As := [.int p0]) (rest := []) ⟨hx, hb, hml, hown, hts⟩ (k_J1_canEncode_9a6ad l hfl dC dI gS gB s.heap.size p0) (va_cwS 1 hts gJ1_indexOf_4cfef_J1_canEncode_9a6ad rfl rfl rfl (by decide +kernel) ⟨Nat.le_of_ble_eq_true rfl, Nat.le_of_ble_eq_true rfl⟩) ⟨fun a U g mk q => by obtain ⟨q0, q1, qE, qP, qK, qD⟩ := q; exact ⟨q0, q1, LE.calling qE, qP, va_K.moved (u := U) (U := U.calling g mk a) (Vm.Alike.refl U.vm) qK, qD⟩, fun U hU hW => ⟨rfl, by rw [hU], LE.to hE hS hU hW (fun q h => hFc q h), by rw [hU]; exact hPc, va_K.moved hW.alike hKc, hDc.weaken (fun _ _ _ _ => trivial)⟩⟩ rfl rfl hl.1 rfl (lv_room (Nat.le_of_ble_eq_true rfl)) dJ1_indexOf_4cfef_1 ⟨(Nat.le_of_ble_eq_true rfl), (Nat.le_of_ble_eq_true rfl)⟩) hS (fun q _ h => hFc q h) hFc (fun q _ h => hFc q h) (fun E9 ce9 q9 u9 t9 H1 locs ht hvm hw hB hz1 hk1 hS hc9 hv9 hcl9 => ?_) (fun r1 u t H1 locs ht hvm hw hB hz1 hk1 hS => ?_)
  · exact hB.elim
  · skip
    obtain ⟨hP1, hK1, hD1⟩ := hB
    rw [ht] at hP1
    have hK1 := va_K.moved hvm.symm hK1
    try dsimp only at hw
    have hP1 : va_P (dC, dI) vwCl [] H1 := hP1
    obtain ⟨hP, hD⟩ := va_join (wr := []) hP hD [] [] rfl rfl (by decide) (by decide) hk1 hFc hP1 hD1
    have hK := (hK.sub (tys' := []) [] rfl).app hK1
    generalize H1 = H at hP hS ⊢
    have hP : va_P (dC, dI) vwCl [] H := hP
    have hD : va_D A [] := hD
    have hK : va_K (dC, dI) vwCl [] s := hK.sub (tys' := []) [] rfl
    obtain rfl : r1 = (inC p0 0 255) := hw
    refine lv_if_ne (tgt := 9) hx hb dJ1_indexOf_4cfef_4 (by decide) (fun cz2 => ?_) (fun cz2 => ?_)
    · skip
      refine lv_iload_n hx hb dJ1_indexOf_4cfef_9 rfl (lv_at hl 2 rfl) ?_
      refine lv_iconst (v := 0) hx hb dJ1_indexOf_4cfef_10 (by decide) ?_
      refine va_mmax hx hb (by rw [hml]; exact hl.1.symm) hown (hts (.methodLink RJ1 92 Lib.Math.max.name) (by decide +kernel)) (hts (.static Lib.Math.max.name) (by decide +kernel)) (hts (.initialized "java/lang/Math") (by decide +kernel)) (hts (.code Lib.Math.max.name Lib.Math.max.code 2 (some .int)) (by decide +kernel)) (Nat.le_of_ble_eq_true rfl) (Nat.le_of_ble_eq_true rfl) (Nat.le_of_ble_eq_true rfl) (Nat.le_of_ble_eq_true rfl) dJ1_indexOf_4cfef_11 ?_
      refine lv_topi (fun x3 ex3 => ?_)
      obtain rfl : x3 = (0 : Int32) := ex3.trans (by decide)
      refine lv_istore_n (lv' := [(2, .int 0), (0, .ref gB), (1, .int p0), (3, .int 12)]) hx hb dJ1_indexOf_4cfef_14 rfl hl (by decide) rfl (fun ls hl => ?_)
      refine lv_iload_n hx hb dJ1_indexOf_4cfef_15 rfl (lv_at hl 3 rfl) ?_
      refine lv_aload_n hx hb dJ1_indexOf_4cfef_16 rfl (lv_at hl 1 rfl) ?_
      refine va_tlen (v := 12) hx hb hE.2.2.2.2.1 hS (by decide) dJ1_indexOf_4cfef_17 ?_
      refine va_mmin hx hb (by rw [hml]; exact hl.1.symm) hown (hts (.methodLink RJ1 38 Lib.Math.min.name) (by decide +kernel)) (hts (.static Lib.Math.min.name) (by decide +kernel)) (hts (.initialized "java/lang/Math") (by decide +kernel)) (hts (.code Lib.Math.min.name Lib.Math.min.code 2 (some .int)) (by decide +kernel)) (Nat.le_of_ble_eq_true rfl) (Nat.le_of_ble_eq_true rfl) (Nat.le_of_ble_eq_true rfl) (Nat.le_of_ble_eq_true rfl) dJ1_indexOf_4cfef_18 ?_
      refine lv_topi (fun x4 ex4 => ?_)
      obtain rfl : x4 = (12 : Int32) := ex4.trans (by decide)
      refine lv_istore_n (lv' := [(3, .int 12), (2, .int 0), (0, .ref gB), (1, .int p0)]) hx hb dJ1_indexOf_4cfef_21 rfl hl (by decide) rfl (fun ls hl => ?_)
      refine lv_iload_n hx hb dJ1_indexOf_4cfef_22 rfl (lv_at hl 1 rfl) ?_
      refine lv_iload_n hx hb dJ1_indexOf_4cfef_23 rfl (lv_at hl 0 rfl) ?_
      refine lv_icmp_lt (tgt := 29) hx hb dJ1_indexOf_4cfef_24 (by decide) (fun cz5 => ?_) (fun cz5 => ?_)
      · skip
        refine lv_aload_n hx hb dJ1_indexOf_4cfef_29 rfl (lv_at hl 2 rfl) ?_
        refine lv_iload_n hx hb dJ1_indexOf_4cfef_30 rfl (lv_at hl 3 rfl) ?_
        refine lv_iload_n hx hb dJ1_indexOf_4cfef_31 rfl (lv_at hl 1 rfl) ?_
        refine lv_iload_n hx hb dJ1_indexOf_4cfef_32 rfl (lv_at hl 0 rfl) ?_
        have hPc := hP.sub (ws' := []) [] rfl
        have hDc := hD.sub (ws' := []) [] (by decide) rfl
        have hKc := hK.sub (tys' := []) [] rfl
        have hFc := va_free (wc := []) hD hS hA [] rfl
        refine vx_calli (vx_runS (As := [.ref gB, .int p0, .int 0, .int 12]) (rest := []) ⟨hx, hb, hml, hown, hts⟩ (k_J1_indexOfChar_4cfef l hfl dC dI gS gB H.size p0) (va_cwS 4 hts gJ1_indexOf_4cfef_J1_indexOfChar_4cfef rfl rfl rfl (by decide +kernel) ⟨Nat.le_of_ble_eq_true rfl, Nat.le_of_ble_eq_true rfl⟩) ⟨fun a U g mk q => by obtain ⟨q0, q1, qE, qP, qK, qD⟩ := q; exact ⟨q0, q1, LE.calling qE, qP, va_K.moved (u := U) (U := U.calling g mk a) (Vm.Alike.refl U.vm) qK, qD⟩, fun U hU hW => ⟨rfl, by rw [hU], LE.to hE hS hU hW (fun q h => hFc q h), by rw [hU]; exact hPc, va_K.moved hW.alike hKc, hDc.weaken (fun _ _ _ _ => trivial)⟩⟩ rfl rfl hl.1 rfl (lv_room (Nat.le_of_ble_eq_true rfl)) dJ1_indexOf_4cfef_33 ⟨(Nat.le_of_ble_eq_true rfl), (Nat.le_of_ble_eq_true rfl)⟩) hS (fun q _ h => hFc q h) hFc (fun q _ h => hFc q h) (fun E9 ce9 q9 u9 t9 H1 locs ht hvm hw hB hz1 hk1 hS hc9 hv9 hcl9 => ?_) (fun r6 u t H1 locs ht hvm hw hB hz1 hk1 hS => ?_)
        · exact hB.elim
        · skip
          obtain ⟨hP1, hK1, hD1⟩ := hB
          rw [ht] at hP1
          have hK1 := va_K.moved hvm.symm hK1
          try dsimp only at hw
          have hP1 : va_P (dC, dI) vwCl [] H1 := hP1
          obtain ⟨hP, hD⟩ := va_join (wr := []) hP hD [] [] rfl rfl (by decide) (by decide) hk1 hFc hP1 hD1
          have hK := (hK.sub (tys' := []) [] rfl).app hK1
          generalize H1 = H at hP hS ⊢
          have hP : va_P (dC, dI) vwCl [] H := hP
          have hD : va_D A [] := hD
          have hK : va_K (dC, dI) vwCl [] s := hK.sub (tys' := []) [] rfl
          obtain rfl : r6 = (ixC p0.toInt8.toInt32) := hw
          refine W.widen (k := 0) (n := 0) (by decide) (by decide) ?_
          refine vx_ret ?_
          have hP9 := hP.sub (ws' := []) [] rfl
          have hD9 := hD.sub (ws' := []) [] (by decide) rfl
          have hK9 := hK.sub (tys' := []) [] rfl
          exact W.iret (v := (ixC p0.toInt8.toInt32)) hx hb hr (fun t ht hW => ⟨⟨(ixC p0.toInt8.toInt32), (), rfl, by unfold ixL; rw [if_neg cz2], by rw [ht]; exact hP9, va_K.moved hW.alike hK9, hD9⟩, hS.F ht⟩) hS.2.2 dJ1_indexOf_4cfef_36
      · exact absurd (by decide) cz5
    · skip
      refine lv_iconst (v := (-1)) hx hb dJ1_indexOf_4cfef_7 (by decide) ?_
      refine W.widen (k := 0) (n := 0) (by decide) (by decide) ?_
      refine vx_ret ?_
      have hP9 := hP.sub (ws' := []) [] rfl
      have hD9 := hD.sub (ws' := []) [] (by decide) rfl
      have hK9 := hK.sub (tys' := []) [] rfl
      exact W.iret (v := (-1)) hx hb hr (fun t ht hW => ⟨⟨(-1), (), rfl, by unfold ixL; rw [if_pos cz2], by rw [ht]; exact hP9, va_K.moved hW.alike hK9, hD9⟩, hS.F ht⟩) hS.2.2 dJ1_indexOf_4cfef_8
set_option maxHeartbeats 4000000 in
set_option maxRecDepth 100000 in
theorem k_J0_indexOf_7cf53 (l : Launch) (hfl : l.stackTraces = false) (dC : Nat → ClassId) (dI : Nat → Nat → Nat) (gS gB sz : Nat) (p0 : Int32) : vx_Met l yJ0_indexOf_7cf53 wsJ0_indexOf_7cf53 ({ frames := 3, cells := 0, slots := 0, locals := 60 }) (va_Pc [.ref gS, .int p0, .int 0] (fun U => U.heap.size = sz ∧ LE gS gB (va_A [] sz) U ∧ va_P (dC, dI) vwCl [] U.heap ∧ va_K (dC, dI) vwCl [] U ∧ va_D (fun _ => True) [])) (va_Qi (fun (r : Int32) (u : Unit) => r = ixL p0) (fun (u : Unit) (t : State) => va_P (dC, dI) vwCl [] t.heap ∧ va_K (dC, dI) vwCl [] t ∧ va_D (va_A [] sz) []) (va_A [] sz)) (vx_X (fun _ : Unit => True) (fun (E : String) (_ : Unit) (_ : State) => False) (va_A [] sz)) 0 0 (va_A [] sz) := by
  refine vx_ofW (cc := cJ0_indexOf_7cf53) (maxL := 3) (ret := (some .int)) (by decide) rfl ?_
  intro p e s m args below meth c s₁ B hml htab hv
  obtain ⟨rfl, hsz, hE, hP, hK, hD0⟩ := hv
  have hx := B.exec
  have hb := B.bytes
  have hr := B.returns
  have hts := atoms_spec (ws := wsJ0_indexOf_7cf53) B.pre
  have hown : s.vm.findClass RJ0 = some m.cls := findClass_of_methodNamed B.named
  have hlocks := B.notSynchronized
  have hout9 : ∀ (pc9 : Nat), ∀ x ∈ c.exceptionTable.toList, covers x pc9 = false := fun _ x hx9 => (htab x hx9).elim
  subst hsz
  have hD := hD0.self (sz := s.heap.size)
  generalize hAe : va_A [] s.heap.size = A at hD hE ⊢
  have hA : ∀ q : Nat, s.heap.size ≤ q → A q := fun q h => by rw [← hAe]; exact Or.inr h
  have hS : va_S A s.heap s.heap [] := va_S.rf
  have hP : va_P (dC, dI) vwCl [] s.heap := hP
  have hl := lv_entry ([.ref gS, .int p0, .int 0]) (n := 3) (Nat.le_of_ble_eq_true rfl)
  rw [lg_entry_eq]
  generalize (lg_sl ([.ref gS, .int p0, .int 0]) ++ List.replicate (3 - (lg_sl ([.ref gS, .int p0, .int 0])).length) Slot.unset).toArray = ls at hl ⊢
  have hl : lv_has ls 3 [(0, .ref gS), (1, .int p0), (2, .int 0)] := hl
  refine lv_aload_n hx hb dJ0_indexOf_7cf53_0 rfl (lv_at hl 0 rfl) ?_
  have hPc := hP.sub (ws' := []) [] rfl
  have hDc := hD.sub (ws' := []) [] (by decide) rfl
  have hKc := hK.sub (tys' := []) [] rfl
  have hFc := va_free (wc := []) hD hS hA [] rfl
  refine vx_calli (vx_runV (As := []) (rest := []) ⟨hx, hb, hml, hown, hts⟩ (k_J0_isLatin1_aae02 l hfl dC dI gS gB s.heap.size) (cwV 0 hts gJ0_indexOf_7cf53_J0_isLatin1_aae02 rfl rfl rfl (by decide +kernel) ⟨Nat.le_of_ble_eq_true rfl, Nat.le_of_ble_eq_true rfl⟩) ⟨fun a U g mk q => by obtain ⟨q0, q1, qE, qP, qK, qD⟩ := q; exact ⟨q0, q1, LE.calling qE, qP, va_K.moved (u := U) (U := U.calling g mk a) (Vm.Alike.refl U.vm) qK, qD⟩, va_Orecv hE.2.1 hS, fun U hU hW => ⟨rfl, by rw [hU], LE.to hE hS hU hW (fun q h => hFc q h), by rw [hU]; exact hPc, va_K.moved hW.alike hKc, hDc.weaken (fun _ _ _ _ => trivial)⟩⟩ rfl rfl hl.1 rfl (lv_room (Nat.le_of_ble_eq_true rfl)) dJ0_indexOf_7cf53_1 ⟨(Nat.le_of_ble_eq_true rfl), (Nat.le_of_ble_eq_true rfl)⟩) hS (fun q _ h => hFc q h) hFc (fun q _ h => hFc q h) (fun E9 ce9 q9 u9 t9 H1 locs ht hvm hw hB hz1 hk1 hS hc9 hv9 hcl9 => ?_) (fun r1 u t H1 locs ht hvm hw hB hz1 hk1 hS => ?_)
  · exact hB.elim
  · skip
    obtain ⟨hP1, hK1, hD1⟩ := hB
    rw [ht] at hP1
    have hK1 := va_K.moved hvm.symm hK1
    try dsimp only at hw
    have hP1 : va_P (dC, dI) vwCl [] H1 := hP1
    obtain ⟨hP, hD⟩ := va_join (wr := []) hP hD [] [] rfl rfl (by decide) (by decide) hk1 hFc hP1 hD1
    have hK := (hK.sub (tys' := []) [] rfl).app hK1
    generalize H1 = H at hP hS ⊢
    have hP : va_P (dC, dI) vwCl [] H := hP
    have hD : va_D A [] := hD
    have hK : va_K (dC, dI) vwCl [] s := hK.sub (tys' := []) [] rfl
    obtain rfl : r1 = (1 : Int32) := hw
    refine lv_if_eq (tgt := 23) hx hb dJ0_indexOf_7cf53_4 (by decide) (fun cz2 => ?_) (fun cz2 => ?_)
    · exact absurd cz2 (by decide)
    · skip
      refine lv_aload_n hx hb dJ0_indexOf_7cf53_7 rfl (lv_at hl 0 rfl) ?_
      refine vk_getf (v := .ref gB) hx hb (hE.2.2.2.1) hS hown (hts (.fieldLink RJ0 9 "java/lang/String" "value" "[B") (by decide +kernel)) (fun _ h9 => h9) dJ0_indexOf_7cf53_8 ?_
      refine lv_iload_n hx hb dJ0_indexOf_7cf53_11 rfl (lv_at hl 1 rfl) ?_
      refine lv_iload_n hx hb dJ0_indexOf_7cf53_12 rfl (lv_at hl 2 rfl) ?_
      refine lv_aload_n hx hb dJ0_indexOf_7cf53_13 rfl (lv_at hl 0 rfl) ?_
      have hPc := hP.sub (ws' := []) [] rfl
      have hDc := hD.sub (ws' := []) [] (by decide) rfl
      have hKc := hK.sub (tys' := []) [] rfl
      have hFc := va_free (wc := []) hD hS hA [] rfl
      refine vx_calli (vx_runV (As := []) (rest := [.int 0, .int p0, .ref gB]) ⟨hx, hb, hml, hown, hts⟩ (k_J0_length_8abf5 l hfl dC dI gS gB H.size) (cwV 0 hts gJ0_indexOf_7cf53_J0_length_8abf5 rfl rfl rfl (by decide +kernel) ⟨Nat.le_of_ble_eq_true rfl, Nat.le_of_ble_eq_true rfl⟩) ⟨fun a U g mk q => by obtain ⟨q0, q1, qE, qP, qK, qD⟩ := q; exact ⟨q0, q1, LE.calling qE, qP, va_K.moved (u := U) (U := U.calling g mk a) (Vm.Alike.refl U.vm) qK, qD⟩, va_Orecv hE.2.1 hS, fun U hU hW => ⟨rfl, by rw [hU], LE.to hE hS hU hW (fun q h => hFc q h), by rw [hU]; exact hPc, va_K.moved hW.alike hKc, hDc.weaken (fun _ _ _ _ => trivial)⟩⟩ rfl rfl hl.1 rfl (lv_room (Nat.le_of_ble_eq_true rfl)) dJ0_indexOf_7cf53_14 ⟨(Nat.le_of_ble_eq_true rfl), (Nat.le_of_ble_eq_true rfl)⟩) hS (fun q _ h => hFc q h) hFc (fun q _ h => hFc q h) (fun E9 ce9 q9 u9 t9 H1 locs ht hvm hw hB hz1 hk1 hS hc9 hv9 hcl9 => ?_) (fun r3 u t H1 locs ht hvm hw hB hz1 hk1 hS => ?_)
      · exact hB.elim
      · skip
        obtain ⟨hP1, hK1, hD1⟩ := hB
        rw [ht] at hP1
        have hK1 := va_K.moved hvm.symm hK1
        try dsimp only at hw
        have hP1 : va_P (dC, dI) vwCl [] H1 := hP1
        obtain ⟨hP, hD⟩ := va_join (wr := []) hP hD [] [] rfl rfl (by decide) (by decide) hk1 hFc hP1 hD1
        have hK := (hK.sub (tys' := []) [] rfl).app hK1
        generalize H1 = H at hP hS ⊢
        have hP : va_P (dC, dI) vwCl [] H := hP
        have hD : va_D A [] := hD
        have hK : va_K (dC, dI) vwCl [] s := hK.sub (tys' := []) [] rfl
        obtain rfl : r3 = (12 : Int32) := hw
        have hPc := hP.sub (ws' := []) [] rfl
        have hDc := hD.sub (ws' := []) [] (by decide) rfl
        have hKc := hK.sub (tys' := []) [] rfl
        have hFc := va_free (wc := []) hD hS hA [] rfl
        refine vx_calli (vx_runS (As := [.ref gB, .int p0, .int 0, .int 12]) (rest := []) ⟨hx, hb, hml, hown, hts⟩ (k_J1_indexOf_4cfef l hfl dC dI gS gB H.size p0) (va_cwS 4 hts gJ0_indexOf_7cf53_J1_indexOf_4cfef rfl rfl rfl (by decide +kernel) ⟨Nat.le_of_ble_eq_true rfl, Nat.le_of_ble_eq_true rfl⟩) ⟨fun a U g mk q => by obtain ⟨q0, q1, qE, qP, qK, qD⟩ := q; exact ⟨q0, q1, LE.calling qE, qP, va_K.moved (u := U) (U := U.calling g mk a) (Vm.Alike.refl U.vm) qK, qD⟩, fun U hU hW => ⟨rfl, by rw [hU], LE.to hE hS hU hW (fun q h => hFc q h), by rw [hU]; exact hPc, va_K.moved hW.alike hKc, hDc.weaken (fun _ _ _ _ => trivial)⟩⟩ rfl rfl hl.1 rfl (lv_room (Nat.le_of_ble_eq_true rfl)) dJ0_indexOf_7cf53_17 ⟨(Nat.le_of_ble_eq_true rfl), (Nat.le_of_ble_eq_true rfl)⟩) hS (fun q _ h => hFc q h) hFc (fun q _ h => hFc q h) (fun E9 ce9 q9 u9 t9 H1 locs ht hvm hw hB hz1 hk1 hS hc9 hv9 hcl9 => ?_) (fun r4 u t H1 locs ht hvm hw hB hz1 hk1 hS => ?_)
        · exact hB.elim
        · skip
          obtain ⟨hP1, hK1, hD1⟩ := hB
          rw [ht] at hP1
          have hK1 := va_K.moved hvm.symm hK1
          try dsimp only at hw
          have hP1 : va_P (dC, dI) vwCl [] H1 := hP1
          obtain ⟨hP, hD⟩ := va_join (wr := []) hP hD [] [] rfl rfl (by decide) (by decide) hk1 hFc hP1 hD1
          have hK := (hK.sub (tys' := []) [] rfl).app hK1
          generalize H1 = H at hP hS ⊢
          have hP : va_P (dC, dI) vwCl [] H := hP
          have hD : va_D A [] := hD
          have hK : va_K (dC, dI) vwCl [] s := hK.sub (tys' := []) [] rfl
          obtain rfl : r4 = (ixL p0) := hw
          refine lv_goto (tgt := 36) hx hb dJ0_indexOf_7cf53_20 (by decide) ?_
          refine W.widen (k := 0) (n := 0) (by decide) (by decide) ?_
          refine vx_ret ?_
          have hP9 := hP.sub (ws' := []) [] rfl
          have hD9 := hD.sub (ws' := []) [] (by decide) rfl
          have hK9 := hK.sub (tys' := []) [] rfl
          exact W.iret (v := (ixL p0)) hx hb hr (fun t ht hW => ⟨⟨(ixL p0), (), rfl, rfl, by rw [ht]; exact hP9, va_K.moved hW.alike hK9, hD9⟩, hS.F ht⟩) hS.2.2 dJ0_indexOf_7cf53_36
set_option maxHeartbeats 4000000 in
set_option maxRecDepth 100000 in
theorem k_J0_indexOf_0f7a4 (l : Launch) (hfl : l.stackTraces = false) (dC : Nat → ClassId) (dI : Nat → Nat → Nat) (gS gB sz : Nat) (p0 : Int32) : vx_Met l yJ0_indexOf_0f7a4 wsJ0_indexOf_0f7a4 ({ frames := 4, cells := 0, slots := 0, locals := 82 }) (va_Pc [.ref gS, .int p0] (fun U => U.heap.size = sz ∧ LE gS gB (va_A [] sz) U ∧ va_P (dC, dI) vwCl [] U.heap ∧ va_K (dC, dI) vwCl [] U ∧ va_D (fun _ => True) [])) (va_Qi (fun (r : Int32) (u : Unit) => r = ixL p0) (fun (u : Unit) (t : State) => va_P (dC, dI) vwCl [] t.heap ∧ va_K (dC, dI) vwCl [] t ∧ va_D (va_A [] sz) []) (va_A [] sz)) (vx_X (fun _ : Unit => True) (fun (E : String) (_ : Unit) (_ : State) => False) (va_A [] sz)) 0 0 (va_A [] sz) := by
  refine vx_ofW (cc := cJ0_indexOf_0f7a4) (maxL := 2) (ret := (some .int)) (by decide) rfl ?_
  intro p e s m args below meth c s₁ B hml htab hv
  obtain ⟨rfl, hsz, hE, hP, hK, hD0⟩ := hv
  have hx := B.exec
  have hb := B.bytes
  have hr := B.returns
  have hts := atoms_spec (ws := wsJ0_indexOf_0f7a4) B.pre
  have hown : s.vm.findClass RJ0 = some m.cls := findClass_of_methodNamed B.named
  have hlocks := B.notSynchronized
  have hout9 : ∀ (pc9 : Nat), ∀ x ∈ c.exceptionTable.toList, covers x pc9 = false := fun _ x hx9 => (htab x hx9).elim
  subst hsz
  have hD := hD0.self (sz := s.heap.size)
  generalize hAe : va_A [] s.heap.size = A at hD hE ⊢
  have hA : ∀ q : Nat, s.heap.size ≤ q → A q := fun q h => by rw [← hAe]; exact Or.inr h
  have hS : va_S A s.heap s.heap [] := va_S.rf
  have hP : va_P (dC, dI) vwCl [] s.heap := hP
  have hl := lv_entry ([.ref gS, .int p0]) (n := 2) (Nat.le_of_ble_eq_true rfl)
  rw [lg_entry_eq]
  generalize (lg_sl ([.ref gS, .int p0]) ++ List.replicate (2 - (lg_sl ([.ref gS, .int p0])).length) Slot.unset).toArray = ls at hl ⊢
  have hl : lv_has ls 2 [(0, .ref gS), (1, .int p0)] := hl
  refine lv_aload_n hx hb dJ0_indexOf_0f7a4_0 rfl (lv_at hl 0 rfl) ?_
  refine lv_iload_n hx hb dJ0_indexOf_0f7a4_1 rfl (lv_at hl 1 rfl) ?_
  refine lv_iconst (v := 0) hx hb dJ0_indexOf_0f7a4_2 (by decide) ?_
  have hPc := hP.sub (ws' := []) [] rfl
  have hDc := hD.sub (ws' := []) [] (by decide) rfl
  have hKc := hK.sub (tys' := []) [] rfl
  have hFc := va_free (wc := []) hD hS hA [] rfl
  refine vx_calli (vx_runV (As := [.int p0, .int 0]) (rest := []) ⟨hx, hb, hml, hown, hts⟩ (k_J0_indexOf_7cf53 l hfl dC dI gS gB s.heap.size p0) (cwV 2 hts gJ0_indexOf_0f7a4_J0_indexOf_7cf53 rfl rfl rfl (by decide +kernel) ⟨Nat.le_of_ble_eq_true rfl, Nat.le_of_ble_eq_true rfl⟩) ⟨fun a U g mk q => by obtain ⟨q0, q1, qE, qP, qK, qD⟩ := q; exact ⟨q0, q1, LE.calling qE, qP, va_K.moved (u := U) (U := U.calling g mk a) (Vm.Alike.refl U.vm) qK, qD⟩, va_Orecv hE.2.1 hS, fun U hU hW => ⟨rfl, by rw [hU], LE.to hE hS hU hW (fun q h => hFc q h), by rw [hU]; exact hPc, va_K.moved hW.alike hKc, hDc.weaken (fun _ _ _ _ => trivial)⟩⟩ rfl rfl hl.1 rfl (lv_room (Nat.le_of_ble_eq_true rfl)) dJ0_indexOf_0f7a4_3 ⟨(Nat.le_of_ble_eq_true rfl), (Nat.le_of_ble_eq_true rfl)⟩) hS (fun q _ h => hFc q h) hFc (fun q _ h => hFc q h) (fun E9 ce9 q9 u9 t9 H1 locs ht hvm hw hB hz1 hk1 hS hc9 hv9 hcl9 => ?_) (fun r1 u t H1 locs ht hvm hw hB hz1 hk1 hS => ?_)
  · exact hB.elim
  · skip
    obtain ⟨hP1, hK1, hD1⟩ := hB
    rw [ht] at hP1
    have hK1 := va_K.moved hvm.symm hK1
    try dsimp only at hw
    have hP1 : va_P (dC, dI) vwCl [] H1 := hP1
    obtain ⟨hP, hD⟩ := va_join (wr := []) hP hD [] [] rfl rfl (by decide) (by decide) hk1 hFc hP1 hD1
    have hK := (hK.sub (tys' := []) [] rfl).app hK1
    generalize H1 = H at hP hS ⊢
    have hP : va_P (dC, dI) vwCl [] H := hP
    have hD : va_D A [] := hD
    have hK : va_K (dC, dI) vwCl [] s := hK.sub (tys' := []) [] rfl
    obtain rfl : r1 = (ixL p0) := hw
    refine W.widen (k := 0) (n := 0) (by decide) (by decide) ?_
    refine vx_ret ?_
    have hP9 := hP.sub (ws' := []) [] rfl
    have hD9 := hD.sub (ws' := []) [] (by decide) rfl
    have hK9 := hK.sub (tys' := []) [] rfl
    exact W.iret (v := (ixL p0)) hx hb hr (fun t ht hW => ⟨⟨(ixL p0), (), rfl, rfl, by rw [ht]; exact hP9, va_K.moved hW.alike hK9, hD9⟩, hS.F ht⟩) hS.2.2 dJ0_indexOf_0f7a4_6
set_option maxHeartbeats 4000000 in
set_option maxRecDepth 100000 in
theorem k_X6_step (l : Launch) (hfl : l.stackTraces = false) (dC : Nat → ClassId) (dI : Nat → Nat → Nat) (h0 gt gtl gtn gd gdi gde gk gk0 gkt gm gw go gta gsh gju : Nat) (cC cI c1 c2 cK : ClassId) (gfk : Nat → Option Nat) (hfk : gfk 0 = some gk0) (sz : Nat) (p0 : Int32) (p1 : Int32) : vx_Met l yX6_step wsX6_step ({ frames := 6, cells := 1, slots := 6, locals := 103 }) (va_Pc [.ref h0, .int p0, .int p1] (fun U => U.heap.size = sz ∧ EV (va_A [(h0, .inr (8, [.ref gt, .ref gd, .ref gk, .ref gm, .ref gw, .ref go, .ref gta, .ref gsh, .ref gju, .int 0, .int 0, .int 0, .int 0, .int 12, .int 0, .int 0])), (gt, .inr (5, [.ref gtl, .ref gtn, .int 0])), (gtl, .inl (cC, 24, .inl (fun _ => 0))), (gtn, .inl (cI, 24, .inl (fun _ => 0))), (gd, .inr (6, [.ref gdi, .ref gde, .int 0, .int 0, .int 0])), (gdi, .inl (c1, 4, .inl (fun _ => 0))), (gde, .inl (c2, 6, .inl (fun _ => 0))), (gk, .inl (cK, 8, .inr (.inr (.inr (.inr gfk))))), (gk0, .inr (2, [.ref gkt, .int 0, .int 0]))] sz) U ∧ va_P (dC, dI) vwCl [(h0, .inr (8, [.ref gt, .ref gd, .ref gk, .ref gm, .ref gw, .ref go, .ref gta, .ref gsh, .ref gju, .int 0, .int 0, .int 0, .int 0, .int 12, .int 0, .int 0])), (gt, .inr (5, [.ref gtl, .ref gtn, .int 0])), (gtl, .inl (cC, 24, .inl (fun _ => 0))), (gtn, .inl (cI, 24, .inl (fun _ => 0))), (gd, .inr (6, [.ref gdi, .ref gde, .int 0, .int 0, .int 0])), (gdi, .inl (c1, 4, .inl (fun _ => 0))), (gde, .inl (c2, 6, .inl (fun _ => 0))), (gk, .inl (cK, 8, .inr (.inr (.inr (.inr gfk))))), (gk0, .inr (2, [.ref gkt, .int 0, .int 0]))] U.heap ∧ va_K (dC, dI) vwCl [(cC, .char), (cI, .int), (c1, .int), (c2, .int), (cK, .object "Katacode$Kata")] U ∧ va_D (fun _ => True) [(h0, .inr (8, [.ref gt, .ref gd, .ref gk, .ref gm, .ref gw, .ref go, .ref gta, .ref gsh, .ref gju, .int 0, .int 0, .int 0, .int 0, .int 12, .int 0, .int 0])), (gt, .inr (5, [.ref gtl, .ref gtn, .int 0])), (gtl, .inl (cC, 24, .inl (fun _ => 0))), (gtn, .inl (cI, 24, .inl (fun _ => 0))), (gd, .inr (6, [.ref gdi, .ref gde, .int 0, .int 0, .int 0])), (gdi, .inl (c1, 4, .inl (fun _ => 0))), (gde, .inl (c2, 6, .inl (fun _ => 0))), (gk, .inl (cK, 8, .inr (.inr (.inr (.inr gfk))))), (gk0, .inr (2, [.ref gkt, .int 0, .int 0]))])) (va_Qi (fun (r : Int32) (u : Unit) => r = 1 ∧ stC p0 p1 = 0) (fun (u : Unit) (t : State) => True) (va_A [(h0, .inr (8, [.ref gt, .ref gd, .ref gk, .ref gm, .ref gw, .ref go, .ref gta, .ref gsh, .ref gju, .int 0, .int 0, .int 0, .int 0, .int 12, .int 0, .int 0])), (gt, .inr (5, [.ref gtl, .ref gtn, .int 0])), (gtl, .inl (cC, 24, .inl (fun _ => 0))), (gtn, .inl (cI, 24, .inl (fun _ => 0))), (gd, .inr (6, [.ref gdi, .ref gde, .int 0, .int 0, .int 0])), (gdi, .inl (c1, 4, .inl (fun _ => 0))), (gde, .inl (c2, 6, .inl (fun _ => 0))), (gk, .inl (cK, 8, .inr (.inr (.inr (.inr gfk))))), (gk0, .inr (2, [.ref gkt, .int 0, .int 0]))] sz)) (vx_X (fun _ : Unit => True) (fun (E : String) (_ : Unit) (_ : State) => E = "java/lang/IllegalArgumentException" ∧ stC p0 p1 = 1) (va_A [(h0, .inr (8, [.ref gt, .ref gd, .ref gk, .ref gm, .ref gw, .ref go, .ref gta, .ref gsh, .ref gju, .int 0, .int 0, .int 0, .int 0, .int 12, .int 0, .int 0])), (gt, .inr (5, [.ref gtl, .ref gtn, .int 0])), (gtl, .inl (cC, 24, .inl (fun _ => 0))), (gtn, .inl (cI, 24, .inl (fun _ => 0))), (gd, .inr (6, [.ref gdi, .ref gde, .int 0, .int 0, .int 0])), (gdi, .inl (c1, 4, .inl (fun _ => 0))), (gde, .inl (c2, 6, .inl (fun _ => 0))), (gk, .inl (cK, 8, .inr (.inr (.inr (.inr gfk))))), (gk0, .inr (2, [.ref gkt, .int 0, .int 0]))] sz)) 1 6 (va_A [(h0, .inr (8, [.ref gt, .ref gd, .ref gk, .ref gm, .ref gw, .ref go, .ref gta, .ref gsh, .ref gju, .int 0, .int 0, .int 0, .int 0, .int 12, .int 0, .int 0])), (gt, .inr (5, [.ref gtl, .ref gtn, .int 0])), (gtl, .inl (cC, 24, .inl (fun _ => 0))), (gtn, .inl (cI, 24, .inl (fun _ => 0))), (gd, .inr (6, [.ref gdi, .ref gde, .int 0, .int 0, .int 0])), (gdi, .inl (c1, 4, .inl (fun _ => 0))), (gde, .inl (c2, 6, .inl (fun _ => 0))), (gk, .inl (cK, 8, .inr (.inr (.inr (.inr gfk))))), (gk0, .inr (2, [.ref gkt, .int 0, .int 0]))] sz) := by
  refine vx_ofW (cc := cX6_step) (maxL := 4) (ret := (some .int)) (by decide) rfl ?_
  intro p e s m args below meth c s₁ B hml htab hv
  obtain ⟨rfl, hsz, hE, hP, hK, hD0⟩ := hv
  have hx := B.exec
  have hb := B.bytes
  have hr := B.returns
  have hts := atoms_spec (ws := wsX6_step) B.pre
  have hown : s.vm.findClass RX6 = some m.cls := findClass_of_methodNamed B.named
  have hlocks := B.notSynchronized
  have hout9 : ∀ (pc9 : Nat), ∀ x ∈ c.exceptionTable.toList, covers x pc9 = false := fun _ x hx9 => (htab x hx9).elim
  have hin_RX6 : ∀ w ∈ u_ws RX6 TX6 16, w ∈ wsX6_step := by decide +kernel
  have hin_RX3 : ∀ w ∈ u_ws RX3 TX3 3, w ∈ wsX6_step := by decide +kernel
  subst hsz
  have hD := hD0.self (sz := s.heap.size)
  generalize hAe : va_A [(h0, .inr (8, [.ref gt, .ref gd, .ref gk, .ref gm, .ref gw, .ref go, .ref gta, .ref gsh, .ref gju, .int 0, .int 0, .int 0, .int 0, .int 12, .int 0, .int 0])), (gt, .inr (5, [.ref gtl, .ref gtn, .int 0])), (gtl, .inl (cC, 24, .inl (fun _ => 0))), (gtn, .inl (cI, 24, .inl (fun _ => 0))), (gd, .inr (6, [.ref gdi, .ref gde, .int 0, .int 0, .int 0])), (gdi, .inl (c1, 4, .inl (fun _ => 0))), (gde, .inl (c2, 6, .inl (fun _ => 0))), (gk, .inl (cK, 8, .inr (.inr (.inr (.inr gfk))))), (gk0, .inr (2, [.ref gkt, .int 0, .int 0]))] s.heap.size = A at hD hE ⊢
  have hA : ∀ q : Nat, s.heap.size ≤ q → A q := fun q h => by rw [← hAe]; exact Or.inr h
  have hS : va_S A s.heap s.heap [] := va_S.rf
  have hP : va_P (dC, dI) vwCl [(h0, .inr (8, [.ref gt, .ref gd, .ref gk, .ref gm, .ref gw, .ref go, .ref gta, .ref gsh, .ref gju, .int 0, .int 0, .int 0, .int 0, .int 12, .int 0, .int 0])), (gt, .inr (5, [.ref gtl, .ref gtn, .int 0])), (gtl, .inl (cC, 24, .inl (fun _ => 0))), (gtn, .inl (cI, 24, .inl (fun _ => 0))), (gd, .inr (6, [.ref gdi, .ref gde, .int 0, .int 0, .int 0])), (gdi, .inl (c1, 4, .inl (fun _ => 0))), (gde, .inl (c2, 6, .inl (fun _ => 0))), (gk, .inl (cK, 8, .inr (.inr (.inr (.inr gfk))))), (gk0, .inr (2, [.ref gkt, .int 0, .int 0]))] s.heap := hP
  have hl := lv_entry ([.ref h0, .int p0, .int p1]) (n := 4) (Nat.le_of_ble_eq_true rfl)
  rw [lg_entry_eq]
  generalize (lg_sl ([.ref h0, .int p0, .int p1]) ++ List.replicate (4 - (lg_sl ([.ref h0, .int p0, .int p1])).length) Slot.unset).toArray = ls at hl ⊢
  have hl : lv_has ls 4 [(0, .ref h0), (1, .int p0), (2, .int p1)] := hl
  obtain ⟨gS, gB, hLE⟩ := EV.le hE
  refine va_ldcS hx hb hown hLE.1 dX6_step_0 ?_
  refine lv_iload_n hx hb dX6_step_2 rfl (lv_at hl 1 rfl) ?_
  have hPc := hP.sub (ws' := []) [] rfl
  have hDc := hD.sub (ws' := []) [] (by decide) rfl
  have hKc := hK.sub (tys' := []) [] rfl
  have hFc := va_free (wc := []) hD hS hA [] rfl
  refine vx_calli (vx_runV (As := [.int p0]) (rest := []) ⟨hx, hb, hml, hown, hts⟩ (k_J0_indexOf_0f7a4 l hfl dC dI gS gB s.heap.size p0) (cwV 1 hts gX6_step_J0_indexOf_0f7a4 rfl rfl rfl (by decide +kernel) ⟨Nat.le_of_ble_eq_true rfl, Nat.le_of_ble_eq_true rfl⟩) ⟨fun a U g mk q => by obtain ⟨q0, q1, qE, qP, qK, qD⟩ := q; exact ⟨q0, q1, LE.calling qE, qP, va_K.moved (u := U) (U := U.calling g mk a) (Vm.Alike.refl U.vm) qK, qD⟩, va_Orecv hLE.2.1 hS, fun U hU hW => ⟨rfl, by rw [hU], LE.to hLE hS hU hW (fun q h => hFc q h), by rw [hU]; exact hPc, va_K.moved hW.alike hKc, hDc.weaken (fun _ _ _ _ => trivial)⟩⟩ rfl rfl hl.1 rfl (lv_room (Nat.le_of_ble_eq_true rfl)) dX6_step_3 ⟨(Nat.le_of_ble_eq_true rfl), (Nat.le_of_ble_eq_true rfl)⟩) hS (fun q _ h => hFc q h) hFc (fun q _ h => hFc q h) (fun E9 ce9 q9 u9 t9 H1 locs ht hvm hw hB hz1 hk1 hS hc9 hv9 hcl9 => ?_) (fun r1 u t H1 locs ht hvm hw hB hz1 hk1 hS => ?_)
  · exact hB.elim
  · skip
    obtain ⟨hP1, hK1, hD1⟩ := hB
    rw [ht] at hP1
    have hK1 := va_K.moved hvm.symm hK1
    try dsimp only at hw
    have hP1 : va_P (dC, dI) vwCl [] H1 := hP1
    obtain ⟨hP, hD⟩ := va_join (wr := [(h0, .inr (8, [.ref gt, .ref gd, .ref gk, .ref gm, .ref gw, .ref go, .ref gta, .ref gsh, .ref gju, .int 0, .int 0, .int 0, .int 0, .int 12, .int 0, .int 0])), (gt, .inr (5, [.ref gtl, .ref gtn, .int 0])), (gtl, .inl (cC, 24, .inl (fun _ => 0))), (gtn, .inl (cI, 24, .inl (fun _ => 0))), (gd, .inr (6, [.ref gdi, .ref gde, .int 0, .int 0, .int 0])), (gdi, .inl (c1, 4, .inl (fun _ => 0))), (gde, .inl (c2, 6, .inl (fun _ => 0))), (gk, .inl (cK, 8, .inr (.inr (.inr (.inr gfk))))), (gk0, .inr (2, [.ref gkt, .int 0, .int 0]))]) hP hD [] [0, 1, 2, 3, 4, 5, 6, 7, 8] rfl rfl (by decide) (by decide) hk1 hFc hP1 hD1
    have hK := (hK.sub (tys' := [(cC, .char), (cI, .int), (c1, .int), (c2, .int), (cK, .object "Katacode$Kata")]) [0, 1, 2, 3, 4] rfl).app hK1
    generalize H1 = H at hP hS ⊢
    have hP : va_P (dC, dI) vwCl [(h0, .inr (8, [.ref gt, .ref gd, .ref gk, .ref gm, .ref gw, .ref go, .ref gta, .ref gsh, .ref gju, .int 0, .int 0, .int 0, .int 0, .int 12, .int 0, .int 0])), (gt, .inr (5, [.ref gtl, .ref gtn, .int 0])), (gtl, .inl (cC, 24, .inl (fun _ => 0))), (gtn, .inl (cI, 24, .inl (fun _ => 0))), (gd, .inr (6, [.ref gdi, .ref gde, .int 0, .int 0, .int 0])), (gdi, .inl (c1, 4, .inl (fun _ => 0))), (gde, .inl (c2, 6, .inl (fun _ => 0))), (gk, .inl (cK, 8, .inr (.inr (.inr (.inr gfk))))), (gk0, .inr (2, [.ref gkt, .int 0, .int 0]))] H := hP
    have hD : va_D A [(h0, .inr (8, [.ref gt, .ref gd, .ref gk, .ref gm, .ref gw, .ref go, .ref gta, .ref gsh, .ref gju, .int 0, .int 0, .int 0, .int 0, .int 12, .int 0, .int 0])), (gt, .inr (5, [.ref gtl, .ref gtn, .int 0])), (gtl, .inl (cC, 24, .inl (fun _ => 0))), (gtn, .inl (cI, 24, .inl (fun _ => 0))), (gd, .inr (6, [.ref gdi, .ref gde, .int 0, .int 0, .int 0])), (gdi, .inl (c1, 4, .inl (fun _ => 0))), (gde, .inl (c2, 6, .inl (fun _ => 0))), (gk, .inl (cK, 8, .inr (.inr (.inr (.inr gfk))))), (gk0, .inr (2, [.ref gkt, .int 0, .int 0]))] := hD
    have hK : va_K (dC, dI) vwCl [(cC, .char), (cI, .int), (c1, .int), (c2, .int), (cK, .object "Katacode$Kata")] s := hK.sub (tys' := [(cC, .char), (cI, .int), (c1, .int), (c2, .int), (cK, .object "Katacode$Kata")]) [0, 1, 2, 3, 4] rfl
    obtain rfl : r1 = (ixL p0) := hw
    refine lv_if_ge (tgt := 19) hx hb dX6_step_6 (by decide) (fun cz2 => ?_) (fun cz2 => ?_)
    · skip
      refine lv_iload_n hx hb dX6_step_19 rfl (lv_at hl 1 rfl) ?_
      refine lv_bipush (v := 110) hx hb dX6_step_20 (by decide) ?_
      refine lv_icmp_ne (tgt := 29) hx hb dX6_step_22 (by decide) (fun cz3 => ?_) (fun cz3 => ?_)
      · skip
        refine lv_iconst (v := 0) hx hb dX6_step_29 (by decide) ?_
        refine lv_istore_n (lv' := [(3, .int 0), (0, .ref h0), (1, .int p0), (2, .int p1)]) hx hb dX6_step_30 rfl hl (by decide) rfl (fun ls hl => ?_)
        refine lv_iload_n hx hb dX6_step_31 rfl (lv_at hl 0 rfl) ?_
        refine lv_if_eq (tgt := 52) hx hb dX6_step_32 (by decide) (fun cz4 => ?_) (fun cz4 => ?_)
        · skip
          refine lv_aload_n hx hb dX6_step_52 rfl (lv_at hl 1 rfl) ?_
          refine va_get (D := (dC, dI)) (ci := 8) (v := .ref gt) (C := RX6) (T := TX6) (N := 16) hx hb hts hin_RX6 hown hK hP 0 rfl rfl 0 (by decide) (hts (.fieldLink RX6 10 "Katacode" "typed" "LKatacode$Program;") (by decide +kernel)) (fun _ h9 => h9) rfl dX6_step_53 ?_
          refine va_get (D := (dC, dI)) (ci := 5) (v := .int 0) (C := RX3) (T := TX3) (N := 3) hx hb hts hin_RX3 hown hK hP 1 rfl rfl 2 (by decide) (hts (.fieldLink RX6 105 "Katacode$Program" "length" "I") (by decide +kernel)) (fun _ h9 => h9) rfl dX6_step_56 ?_
          refine lv_bipush (v := 24) hx hb dX6_step_59 (by decide) ?_
          refine lv_icmp_lt (tgt := 74) hx hb dX6_step_61 (by decide) (fun cz5 => ?_) (fun cz5 => ?_)
          · skip
            refine lv_aload_n hx hb dX6_step_74 rfl (lv_at hl 1 rfl) ?_
            refine va_get (D := (dC, dI)) (ci := 8) (v := .ref gt) (C := RX6) (T := TX6) (N := 16) hx hb hts hin_RX6 hown hK hP 0 rfl rfl 0 (by decide) (hts (.fieldLink RX6 10 "Katacode" "typed" "LKatacode$Program;") (by decide +kernel)) (fun _ h9 => h9) rfl dX6_step_75 ?_
            refine lv_iload_n hx hb dX6_step_78 rfl (lv_at hl 2 rfl) ?_
            refine lv_iload_n hx hb dX6_step_79 rfl (lv_at hl 0 rfl) ?_
            refine lv_if_eq (tgt := 87) hx hb dX6_step_80 (by decide) (fun cz6 => ?_) (fun cz6 => ?_)
            · skip
              refine lv_iconst (v := 0) hx hb dX6_step_87 (by decide) ?_
              have hPc := hP.sub (ws' := [(gt, .inr (5, [.ref gtl, .ref gtn, .int 0])), (gtl, .inl (cC, 24, .inl (fun _ => 0))), (gtn, .inl (cI, 24, .inl (fun _ => 0)))]) [1, 2, 3] rfl
              have hDc := hD.sub (ws' := [(gt, .inr (5, [.ref gtl, .ref gtn, .int 0])), (gtl, .inl (cC, 24, .inl (fun _ => 0))), (gtn, .inl (cI, 24, .inl (fun _ => 0)))]) [1, 2, 3] (by decide) rfl
              have hKc := hK.sub (tys' := [(cC, .char), (cI, .int)]) [0, 1] rfl
              have hFc := va_free (wc := [(gt, .inr (5, [.ref gtl, .ref gtn, .int 0])), (gtl, .inl (cC, 24, .inl (fun _ => 0))), (gtn, .inl (cI, 24, .inl (fun _ => 0)))]) hD hS hA [1, 2, 3] rfl
              refine vx_callv (vx_runV (As := [.int p0, .int 0]) (rest := []) ⟨hx, hb, hml, hown, hts⟩ (k_X3_append l hfl dC dI gt gtl gtn cC cI H.size p0 0) (cwV 2 hts gX6_step_X3_append rfl rfl rfl (by decide +kernel) ⟨Nat.le_of_ble_eq_true rfl, Nat.le_of_ble_eq_true rfl⟩) ⟨fun a U g mk q => by obtain ⟨q0, q1, qE, qP, qK, qD⟩ := q; exact ⟨q0, q1, EV.calling qE, qP, va_K.moved (u := U) (U := U.calling g mk a) (Vm.Alike.refl U.vm) qK, qD⟩, va_recv hKc hPc (ci := 5) (q0 := 0) rfl rfl, fun U hU hW => ⟨rfl, by rw [hU], EV.to hE hS hU hW (fun q h => hFc q h), by rw [hU]; exact hPc, va_K.moved hW.alike hKc, hDc.weaken (fun _ _ _ _ => trivial)⟩⟩ rfl rfl hl.1 rfl (lv_room (Nat.le_of_ble_eq_true rfl)) dX6_step_88 ⟨(Nat.le_of_ble_eq_true rfl), (Nat.le_of_ble_eq_true rfl)⟩) hS (fun q _ h => hFc q h) hFc (fun q _ h => hFc q h) (fun E9 ce9 q9 u9 t9 H1 locs ht hvm hw hB hz1 hk1 hS hc9 hv9 hcl9 => ?_) (fun u t H1 locs ht hvm hw hB hz1 hk1 hS => ?_)
              · exact hB.elim
              · skip
                obtain ⟨hP1, hK1, hD1⟩ := hB
                rw [ht] at hP1
                have hK1 := va_K.moved hvm.symm hK1
                try dsimp only at hw
                have hP1 : va_P (dC, dI) vwCl [(gt, .inr (5, [.ref gtl, .ref gtn, .int 1])), (gtl, .inl (cC, 24, .inl (upd (fun _ => 0) (0 : Int32).toNatClampNeg (vp_nar .char p0)))), (gtn, .inl (cI, 24, .inl (upd (fun _ => 0) (0 : Int32).toNatClampNeg 0)))] H1 := hP1
                obtain ⟨hP, hD⟩ := va_join (wr := [(h0, .inr (8, [.ref gt, .ref gd, .ref gk, .ref gm, .ref gw, .ref go, .ref gta, .ref gsh, .ref gju, .int 0, .int 0, .int 0, .int 0, .int 12, .int 0, .int 0])), (gd, .inr (6, [.ref gdi, .ref gde, .int 0, .int 0, .int 0])), (gdi, .inl (c1, 4, .inl (fun _ => 0))), (gde, .inl (c2, 6, .inl (fun _ => 0))), (gk, .inl (cK, 8, .inr (.inr (.inr (.inr gfk))))), (gk0, .inr (2, [.ref gkt, .int 0, .int 0]))]) hP hD [1, 2, 3] [0, 4, 5, 6, 7, 8] rfl rfl (by decide) (by decide) hk1 hFc hP1 hD1
                have hK := (hK.sub (tys' := [(cC, .char), (cI, .int), (c1, .int), (c2, .int), (cK, .object "Katacode$Kata")]) [0, 1, 2, 3, 4] rfl).app hK1
                generalize H1 = H at hP hS ⊢
                have hP : va_P (dC, dI) vwCl [(h0, .inr (8, [.ref gt, .ref gd, .ref gk, .ref gm, .ref gw, .ref go, .ref gta, .ref gsh, .ref gju, .int 0, .int 0, .int 0, .int 0, .int 12, .int 0, .int 0])), (gd, .inr (6, [.ref gdi, .ref gde, .int 0, .int 0, .int 0])), (gdi, .inl (c1, 4, .inl (fun _ => 0))), (gde, .inl (c2, 6, .inl (fun _ => 0))), (gk, .inl (cK, 8, .inr (.inr (.inr (.inr gfk))))), (gk0, .inr (2, [.ref gkt, .int 0, .int 0])), (gt, .inr (5, [.ref gtl, .ref gtn, .int 1])), (gtl, .inl (cC, 24, .inl (upd (fun _ => 0) (0 : Int32).toNatClampNeg (vp_nar .char p0)))), (gtn, .inl (cI, 24, .inl (upd (fun _ => 0) (0 : Int32).toNatClampNeg 0)))] H := hP
                have hD : va_D A [(h0, .inr (8, [.ref gt, .ref gd, .ref gk, .ref gm, .ref gw, .ref go, .ref gta, .ref gsh, .ref gju, .int 0, .int 0, .int 0, .int 0, .int 12, .int 0, .int 0])), (gd, .inr (6, [.ref gdi, .ref gde, .int 0, .int 0, .int 0])), (gdi, .inl (c1, 4, .inl (fun _ => 0))), (gde, .inl (c2, 6, .inl (fun _ => 0))), (gk, .inl (cK, 8, .inr (.inr (.inr (.inr gfk))))), (gk0, .inr (2, [.ref gkt, .int 0, .int 0])), (gt, .inr (5, [.ref gtl, .ref gtn, .int 1])), (gtl, .inl (cC, 24, .inl (upd (fun _ => 0) (0 : Int32).toNatClampNeg (vp_nar .char p0)))), (gtn, .inl (cI, 24, .inl (upd (fun _ => 0) (0 : Int32).toNatClampNeg 0)))] := hD
                have hK : va_K (dC, dI) vwCl [(cC, .char), (cI, .int), (c1, .int), (c2, .int), (cK, .object "Katacode$Kata")] s := hK.sub (tys' := [(cC, .char), (cI, .int), (c1, .int), (c2, .int), (cK, .object "Katacode$Kata")]) [0, 1, 2, 3, 4] rfl
                refine lv_aload_n hx hb dX6_step_91 rfl (lv_at hl 1 rfl) ?_
                refine va_get (D := (dC, dI)) (ci := 8) (v := .ref gt) (C := RX6) (T := TX6) (N := 16) hx hb hts hin_RX6 hown hK hP 0 rfl rfl 0 (by decide) (hts (.fieldLink RX6 10 "Katacode" "typed" "LKatacode$Program;") (by decide +kernel)) (fun _ h9 => h9) rfl dX6_step_92 ?_
                refine va_get (D := (dC, dI)) (ci := 5) (v := .int 1) (C := RX3) (T := TX3) (N := 3) hx hb hts hin_RX3 hown hK hP 6 rfl rfl 2 (by decide) (hts (.fieldLink RX6 105 "Katacode$Program" "length" "I") (by decide +kernel)) (fun _ h9 => h9) rfl dX6_step_95 ?_
                refine W.widen (k := 1) (n := 6) (by decide) (by decide) ?_
                refine vx_ret ?_
                exact W.iret (v := 1) hx hb hr (fun t ht hW => ⟨⟨1, (), rfl, ⟨rfl, by unfold stC; rw [if_pos cz2, if_neg cz3]⟩, trivial⟩, hS.F ht⟩) hS.2.2 dX6_step_98
            · exact absurd (by decide) cz6
          · exact absurd (by decide) cz5
        · exact absurd (by decide) cz4
      · skip
        refine lv_iconst (v := 1) hx hb dX6_step_25 (by decide) ?_
        refine lv_goto (tgt := 30) hx hb dX6_step_26 (by decide) ?_
        refine lv_istore_n (lv' := [(3, .int 1), (0, .ref h0), (1, .int p0), (2, .int p1)]) hx hb dX6_step_30 rfl hl (by decide) rfl (fun ls hl => ?_)
        refine lv_iload_n hx hb dX6_step_31 rfl (lv_at hl 0 rfl) ?_
        refine lv_if_eq (tgt := 52) hx hb dX6_step_32 (by decide) (fun cz8 => ?_) (fun cz8 => ?_)
        · exact absurd cz8 (by decide)
        · skip
          refine lv_iload_n hx hb dX6_step_35 rfl (lv_at hl 3 rfl) ?_
          have hPc := hP.sub (ws' := []) [] rfl
          have hDc := hD.sub (ws' := []) [] (by decide) rfl
          have hKc := hK.sub (tys' := []) [] rfl
          have hFc := va_free (wc := []) hD hS hA [] rfl
          refine vx_calli (vx_runS (As := [.int p1]) (rest := []) ⟨hx, hb, hml, hown, hts⟩ (k_X6_isOutOfRange l hfl dC dI H.size p1) (va_cwS 1 hts gX6_step_X6_isOutOfRange rfl rfl rfl (by decide +kernel) ⟨Nat.le_of_ble_eq_true rfl, Nat.le_of_ble_eq_true rfl⟩) ⟨fun a U g mk q => by obtain ⟨q0, q1, qE, qP, qK, qD⟩ := q; exact ⟨q0, q1, EV.calling qE, qP, va_K.moved (u := U) (U := U.calling g mk a) (Vm.Alike.refl U.vm) qK, qD⟩, fun U hU hW => ⟨rfl, by rw [hU], EV.to hE hS hU hW (fun q h => hFc q h), by rw [hU]; exact hPc, va_K.moved hW.alike hKc, hDc.weaken (fun _ _ _ _ => trivial)⟩⟩ rfl rfl hl.1 rfl (lv_room (Nat.le_of_ble_eq_true rfl)) dX6_step_36 ⟨(Nat.le_of_ble_eq_true rfl), (Nat.le_of_ble_eq_true rfl)⟩) hS (fun q _ h => hFc q h) hFc (fun q _ h => hFc q h) (fun E9 ce9 q9 u9 t9 H1 locs ht hvm hw hB hz1 hk1 hS hc9 hv9 hcl9 => ?_) (fun r9 u t H1 locs ht hvm hw hB hz1 hk1 hS => ?_)
          · exact hB.elim
          · skip
            obtain ⟨hP1, hK1, hD1⟩ := hB
            rw [ht] at hP1
            have hK1 := va_K.moved hvm.symm hK1
            try dsimp only at hw
            have hP1 : va_P (dC, dI) vwCl [] H1 := hP1
            obtain ⟨hP, hD⟩ := va_join (wr := [(h0, .inr (8, [.ref gt, .ref gd, .ref gk, .ref gm, .ref gw, .ref go, .ref gta, .ref gsh, .ref gju, .int 0, .int 0, .int 0, .int 0, .int 12, .int 0, .int 0])), (gt, .inr (5, [.ref gtl, .ref gtn, .int 0])), (gtl, .inl (cC, 24, .inl (fun _ => 0))), (gtn, .inl (cI, 24, .inl (fun _ => 0))), (gd, .inr (6, [.ref gdi, .ref gde, .int 0, .int 0, .int 0])), (gdi, .inl (c1, 4, .inl (fun _ => 0))), (gde, .inl (c2, 6, .inl (fun _ => 0))), (gk, .inl (cK, 8, .inr (.inr (.inr (.inr gfk))))), (gk0, .inr (2, [.ref gkt, .int 0, .int 0]))]) hP hD [] [0, 1, 2, 3, 4, 5, 6, 7, 8] rfl rfl (by decide) (by decide) hk1 hFc hP1 hD1
            have hK := (hK.sub (tys' := [(cC, .char), (cI, .int), (c1, .int), (c2, .int), (cK, .object "Katacode$Kata")]) [0, 1, 2, 3, 4] rfl).app hK1
            generalize H1 = H at hP hS ⊢
            have hP : va_P (dC, dI) vwCl [(h0, .inr (8, [.ref gt, .ref gd, .ref gk, .ref gm, .ref gw, .ref go, .ref gta, .ref gsh, .ref gju, .int 0, .int 0, .int 0, .int 0, .int 12, .int 0, .int 0])), (gt, .inr (5, [.ref gtl, .ref gtn, .int 0])), (gtl, .inl (cC, 24, .inl (fun _ => 0))), (gtn, .inl (cI, 24, .inl (fun _ => 0))), (gd, .inr (6, [.ref gdi, .ref gde, .int 0, .int 0, .int 0])), (gdi, .inl (c1, 4, .inl (fun _ => 0))), (gde, .inl (c2, 6, .inl (fun _ => 0))), (gk, .inl (cK, 8, .inr (.inr (.inr (.inr gfk))))), (gk0, .inr (2, [.ref gkt, .int 0, .int 0]))] H := hP
            have hD : va_D A [(h0, .inr (8, [.ref gt, .ref gd, .ref gk, .ref gm, .ref gw, .ref go, .ref gta, .ref gsh, .ref gju, .int 0, .int 0, .int 0, .int 0, .int 12, .int 0, .int 0])), (gt, .inr (5, [.ref gtl, .ref gtn, .int 0])), (gtl, .inl (cC, 24, .inl (fun _ => 0))), (gtn, .inl (cI, 24, .inl (fun _ => 0))), (gd, .inr (6, [.ref gdi, .ref gde, .int 0, .int 0, .int 0])), (gdi, .inl (c1, 4, .inl (fun _ => 0))), (gde, .inl (c2, 6, .inl (fun _ => 0))), (gk, .inl (cK, 8, .inr (.inr (.inr (.inr gfk))))), (gk0, .inr (2, [.ref gkt, .int 0, .int 0]))] := hD
            have hK : va_K (dC, dI) vwCl [(cC, .char), (cI, .int), (c1, .int), (c2, .int), (cK, .object "Katacode$Kata")] s := hK.sub (tys' := [(cC, .char), (cI, .int), (c1, .int), (c2, .int), (cK, .object "Katacode$Kata")]) [0, 1, 2, 3, 4] rfl
            obtain rfl : r9 = (rgC (-999) 999 p1) := hw
            refine lv_if_eq (tgt := 52) hx hb dX6_step_39 (by decide) (fun cz10 => ?_) (fun cz10 => ?_)
            · skip
              refine lv_aload_n hx hb dX6_step_52 rfl (lv_at hl 1 rfl) ?_
              refine va_get (D := (dC, dI)) (ci := 8) (v := .ref gt) (C := RX6) (T := TX6) (N := 16) hx hb hts hin_RX6 hown hK hP 0 rfl rfl 0 (by decide) (hts (.fieldLink RX6 10 "Katacode" "typed" "LKatacode$Program;") (by decide +kernel)) (fun _ h9 => h9) rfl dX6_step_53 ?_
              refine va_get (D := (dC, dI)) (ci := 5) (v := .int 0) (C := RX3) (T := TX3) (N := 3) hx hb hts hin_RX3 hown hK hP 1 rfl rfl 2 (by decide) (hts (.fieldLink RX6 105 "Katacode$Program" "length" "I") (by decide +kernel)) (fun _ h9 => h9) rfl dX6_step_56 ?_
              refine lv_bipush (v := 24) hx hb dX6_step_59 (by decide) ?_
              refine lv_icmp_lt (tgt := 74) hx hb dX6_step_61 (by decide) (fun cz11 => ?_) (fun cz11 => ?_)
              · skip
                refine lv_aload_n hx hb dX6_step_74 rfl (lv_at hl 1 rfl) ?_
                refine va_get (D := (dC, dI)) (ci := 8) (v := .ref gt) (C := RX6) (T := TX6) (N := 16) hx hb hts hin_RX6 hown hK hP 0 rfl rfl 0 (by decide) (hts (.fieldLink RX6 10 "Katacode" "typed" "LKatacode$Program;") (by decide +kernel)) (fun _ h9 => h9) rfl dX6_step_75 ?_
                refine lv_iload_n hx hb dX6_step_78 rfl (lv_at hl 2 rfl) ?_
                refine lv_iload_n hx hb dX6_step_79 rfl (lv_at hl 0 rfl) ?_
                refine lv_if_eq (tgt := 87) hx hb dX6_step_80 (by decide) (fun cz12 => ?_) (fun cz12 => ?_)
                · exact absurd cz12 (by decide)
                · skip
                  refine lv_iload_n hx hb dX6_step_83 rfl (lv_at hl 3 rfl) ?_
                  refine lv_goto (tgt := 88) hx hb dX6_step_84 (by decide) ?_
                  have hPc := hP.sub (ws' := [(gt, .inr (5, [.ref gtl, .ref gtn, .int 0])), (gtl, .inl (cC, 24, .inl (fun _ => 0))), (gtn, .inl (cI, 24, .inl (fun _ => 0)))]) [1, 2, 3] rfl
                  have hDc := hD.sub (ws' := [(gt, .inr (5, [.ref gtl, .ref gtn, .int 0])), (gtl, .inl (cC, 24, .inl (fun _ => 0))), (gtn, .inl (cI, 24, .inl (fun _ => 0)))]) [1, 2, 3] (by decide) rfl
                  have hKc := hK.sub (tys' := [(cC, .char), (cI, .int)]) [0, 1] rfl
                  have hFc := va_free (wc := [(gt, .inr (5, [.ref gtl, .ref gtn, .int 0])), (gtl, .inl (cC, 24, .inl (fun _ => 0))), (gtn, .inl (cI, 24, .inl (fun _ => 0)))]) hD hS hA [1, 2, 3] rfl
                  refine vx_callv (vx_runV (As := [.int p0, .int p1]) (rest := []) ⟨hx, hb, hml, hown, hts⟩ (k_X3_append l hfl dC dI gt gtl gtn cC cI H.size p0 p1) (cwV 2 hts gX6_step_X3_append rfl rfl rfl (by decide +kernel) ⟨Nat.le_of_ble_eq_true rfl, Nat.le_of_ble_eq_true rfl⟩) ⟨fun a U g mk q => by obtain ⟨q0, q1, qE, qP, qK, qD⟩ := q; exact ⟨q0, q1, EV.calling qE, qP, va_K.moved (u := U) (U := U.calling g mk a) (Vm.Alike.refl U.vm) qK, qD⟩, va_recv hKc hPc (ci := 5) (q0 := 0) rfl rfl, fun U hU hW => ⟨rfl, by rw [hU], EV.to hE hS hU hW (fun q h => hFc q h), by rw [hU]; exact hPc, va_K.moved hW.alike hKc, hDc.weaken (fun _ _ _ _ => trivial)⟩⟩ rfl rfl hl.1 rfl (lv_room (Nat.le_of_ble_eq_true rfl)) dX6_step_88 ⟨(Nat.le_of_ble_eq_true rfl), (Nat.le_of_ble_eq_true rfl)⟩) hS (fun q _ h => hFc q h) hFc (fun q _ h => hFc q h) (fun E9 ce9 q9 u9 t9 H1 locs ht hvm hw hB hz1 hk1 hS hc9 hv9 hcl9 => ?_) (fun u t H1 locs ht hvm hw hB hz1 hk1 hS => ?_)
                  · exact hB.elim
                  · skip
                    obtain ⟨hP1, hK1, hD1⟩ := hB
                    rw [ht] at hP1
                    have hK1 := va_K.moved hvm.symm hK1
                    try dsimp only at hw
                    have hP1 : va_P (dC, dI) vwCl [(gt, .inr (5, [.ref gtl, .ref gtn, .int 1])), (gtl, .inl (cC, 24, .inl (upd (fun _ => 0) (0 : Int32).toNatClampNeg (vp_nar .char p0)))), (gtn, .inl (cI, 24, .inl (upd (fun _ => 0) (0 : Int32).toNatClampNeg p1)))] H1 := hP1
                    obtain ⟨hP, hD⟩ := va_join (wr := [(h0, .inr (8, [.ref gt, .ref gd, .ref gk, .ref gm, .ref gw, .ref go, .ref gta, .ref gsh, .ref gju, .int 0, .int 0, .int 0, .int 0, .int 12, .int 0, .int 0])), (gd, .inr (6, [.ref gdi, .ref gde, .int 0, .int 0, .int 0])), (gdi, .inl (c1, 4, .inl (fun _ => 0))), (gde, .inl (c2, 6, .inl (fun _ => 0))), (gk, .inl (cK, 8, .inr (.inr (.inr (.inr gfk))))), (gk0, .inr (2, [.ref gkt, .int 0, .int 0]))]) hP hD [1, 2, 3] [0, 4, 5, 6, 7, 8] rfl rfl (by decide) (by decide) hk1 hFc hP1 hD1
                    have hK := (hK.sub (tys' := [(cC, .char), (cI, .int), (c1, .int), (c2, .int), (cK, .object "Katacode$Kata")]) [0, 1, 2, 3, 4] rfl).app hK1
                    generalize H1 = H at hP hS ⊢
                    have hP : va_P (dC, dI) vwCl [(h0, .inr (8, [.ref gt, .ref gd, .ref gk, .ref gm, .ref gw, .ref go, .ref gta, .ref gsh, .ref gju, .int 0, .int 0, .int 0, .int 0, .int 12, .int 0, .int 0])), (gd, .inr (6, [.ref gdi, .ref gde, .int 0, .int 0, .int 0])), (gdi, .inl (c1, 4, .inl (fun _ => 0))), (gde, .inl (c2, 6, .inl (fun _ => 0))), (gk, .inl (cK, 8, .inr (.inr (.inr (.inr gfk))))), (gk0, .inr (2, [.ref gkt, .int 0, .int 0])), (gt, .inr (5, [.ref gtl, .ref gtn, .int 1])), (gtl, .inl (cC, 24, .inl (upd (fun _ => 0) (0 : Int32).toNatClampNeg (vp_nar .char p0)))), (gtn, .inl (cI, 24, .inl (upd (fun _ => 0) (0 : Int32).toNatClampNeg p1)))] H := hP
                    have hD : va_D A [(h0, .inr (8, [.ref gt, .ref gd, .ref gk, .ref gm, .ref gw, .ref go, .ref gta, .ref gsh, .ref gju, .int 0, .int 0, .int 0, .int 0, .int 12, .int 0, .int 0])), (gd, .inr (6, [.ref gdi, .ref gde, .int 0, .int 0, .int 0])), (gdi, .inl (c1, 4, .inl (fun _ => 0))), (gde, .inl (c2, 6, .inl (fun _ => 0))), (gk, .inl (cK, 8, .inr (.inr (.inr (.inr gfk))))), (gk0, .inr (2, [.ref gkt, .int 0, .int 0])), (gt, .inr (5, [.ref gtl, .ref gtn, .int 1])), (gtl, .inl (cC, 24, .inl (upd (fun _ => 0) (0 : Int32).toNatClampNeg (vp_nar .char p0)))), (gtn, .inl (cI, 24, .inl (upd (fun _ => 0) (0 : Int32).toNatClampNeg p1)))] := hD
                    have hK : va_K (dC, dI) vwCl [(cC, .char), (cI, .int), (c1, .int), (c2, .int), (cK, .object "Katacode$Kata")] s := hK.sub (tys' := [(cC, .char), (cI, .int), (c1, .int), (c2, .int), (cK, .object "Katacode$Kata")]) [0, 1, 2, 3, 4] rfl
                    refine lv_aload_n hx hb dX6_step_91 rfl (lv_at hl 1 rfl) ?_
                    refine va_get (D := (dC, dI)) (ci := 8) (v := .ref gt) (C := RX6) (T := TX6) (N := 16) hx hb hts hin_RX6 hown hK hP 0 rfl rfl 0 (by decide) (hts (.fieldLink RX6 10 "Katacode" "typed" "LKatacode$Program;") (by decide +kernel)) (fun _ h9 => h9) rfl dX6_step_92 ?_
                    refine va_get (D := (dC, dI)) (ci := 5) (v := .int 1) (C := RX3) (T := TX3) (N := 3) hx hb hts hin_RX3 hown hK hP 6 rfl rfl 2 (by decide) (hts (.fieldLink RX6 105 "Katacode$Program" "length" "I") (by decide +kernel)) (fun _ h9 => h9) rfl dX6_step_95 ?_
                    refine W.widen (k := 1) (n := 6) (by decide) (by decide) ?_
                    refine vx_ret ?_
                    exact W.iret (v := 1) hx hb hr (fun t ht hW => ⟨⟨1, (), rfl, ⟨rfl, by unfold stC; rw [if_pos cz2, if_pos cz3]; exact cz10⟩, trivial⟩, hS.F ht⟩) hS.2.2 dX6_step_98
              · exact absurd (by decide) cz11
            · skip
              obtain ⟨sa, hstr⟩ := EV.str hE (own := RX6) (k := 103) (tx := "the number is out of range") (by decide +kernel)
              exact vx_throwS (mc := 1) (ms := 6) (names := ["java/lang/RuntimeException", "java/lang/Exception"]) hx hb hfl hown (by decide +kernel) (by decide +kernel) (hts (.classLink RX6 92 "java/lang/IllegalArgumentException") (by decide +kernel)) (hts (.initialized "java/lang/IllegalArgumentException") (by decide +kernel)) hstr (vx_hat (B := [.castable "java/lang/IllegalArgumentException" "java/lang/IllegalArgumentException", .declares ⟨"java/lang/RuntimeException", "<init>", "(Ljava/lang/String;)V"⟩, .declares ⟨"java/lang/Exception", "<init>", "(Ljava/lang/String;)V"⟩, .declares ⟨"java/lang/Throwable", "<init>", "(Ljava/lang/String;)V"⟩]) (fun w h => hts w (by revert w h; decide +kernel)) (by decide +kernel) (vx_c (EV.cast hE (by decide +kernel)) (vx_c (EV.dec hE (by decide +kernel)) (vx_c (EV.dec hE (by decide +kernel)) (vx_c (EV.dec hE (by decide +kernel)) vx_n))))) (by decide +kernel) (EV.zu hE) (EV.zn hE) hS (hl.1.trans hml.symm) dX6_step_42 dX6_step_45 dX6_step_46 dX6_step_48 dX6_step_51 (hout9 _) (Nat.le_of_ble_eq_true rfl) (Nat.le_of_ble_eq_true rfl) (Nat.le_of_ble_eq_true rfl) (Nat.le_of_ble_eq_true rfl) hlocks (fun t9 _ h8 h9 => ⟨(), trivial, ⟨rfl, by unfold stC; rw [if_pos cz2, if_pos cz3]; exact rgC_01.resolve_left cz10⟩, fF hS h8 h9⟩) hS.2.2 (by decide) (by decide)
    · skip
      obtain ⟨sa, hstr⟩ := EV.str hE (own := RX6) (k := 94) (tx := "no such letter") (by decide +kernel)
      exact vx_throwS (mc := 1) (ms := 6) (names := ["java/lang/RuntimeException", "java/lang/Exception"]) hx hb hfl hown (by decide +kernel) (by decide +kernel) (hts (.classLink RX6 92 "java/lang/IllegalArgumentException") (by decide +kernel)) (hts (.initialized "java/lang/IllegalArgumentException") (by decide +kernel)) hstr (vx_hat (B := [.castable "java/lang/IllegalArgumentException" "java/lang/IllegalArgumentException", .declares ⟨"java/lang/RuntimeException", "<init>", "(Ljava/lang/String;)V"⟩, .declares ⟨"java/lang/Exception", "<init>", "(Ljava/lang/String;)V"⟩, .declares ⟨"java/lang/Throwable", "<init>", "(Ljava/lang/String;)V"⟩]) (fun w h => hts w (by revert w h; decide +kernel)) (by decide +kernel) (vx_c (EV.cast hE (by decide +kernel)) (vx_c (EV.dec hE (by decide +kernel)) (vx_c (EV.dec hE (by decide +kernel)) (vx_c (EV.dec hE (by decide +kernel)) vx_n))))) (by decide +kernel) (EV.zu hE) (EV.zn hE) hS (hl.1.trans hml.symm) dX6_step_9 dX6_step_12 dX6_step_13 dX6_step_15 dX6_step_18 (hout9 _) (Nat.le_of_ble_eq_true rfl) (Nat.le_of_ble_eq_true rfl) (Nat.le_of_ble_eq_true rfl) (Nat.le_of_ble_eq_true rfl) hlocks (fun t9 _ h8 h9 => ⟨(), trivial, ⟨rfl, by unfold stC; rw [if_neg cz2]⟩, fF hS h8 h9⟩) hS.2.2 (by decide) (by decide)
set_option maxHeartbeats 4000000 in
set_option maxRecDepth 100000 in
theorem k_L_step (l : Launch) (hfl : l.stackTraces = false) (dC : Nat → ClassId) (dI : Nat → Nat → Nat) (h0 gt gtl gtn gd gdi gde gk gk0 gkt gm gw go gta gsh gju : Nat) (cC cI c1 c2 cK : ClassId) (gfk : Nat → Option Nat) (hfk : gfk 0 = some gk0) (jo : Nat) (cJ : ClassId) (jf : Nat → Int64) (sz : Nat) (p0 : Int32) (p1 : Int32) : vx_Met l yL_step wsL_step ({ frames := 7, cells := 1, slots := 6, locals := 126 }) (va_Pc [.ref h0, .int p0, .int p1, .ref jo] (fun U => U.heap.size = sz ∧ EV (va_A [(h0, .inr (8, [.ref gt, .ref gd, .ref gk, .ref gm, .ref gw, .ref go, .ref gta, .ref gsh, .ref gju, .int 0, .int 0, .int 0, .int 0, .int 12, .int 0, .int 0])), (gt, .inr (5, [.ref gtl, .ref gtn, .int 0])), (gtl, .inl (cC, 24, .inl (fun _ => 0))), (gtn, .inl (cI, 24, .inl (fun _ => 0))), (gd, .inr (6, [.ref gdi, .ref gde, .int 0, .int 0, .int 0])), (gdi, .inl (c1, 4, .inl (fun _ => 0))), (gde, .inl (c2, 6, .inl (fun _ => 0))), (gk, .inl (cK, 8, .inr (.inr (.inr (.inr gfk))))), (gk0, .inr (2, [.ref gkt, .int 0, .int 0])), (jo, .inl (cJ, 1, .inr (.inl jf)))] sz) U ∧ va_P (dC, dI) vwCl [(h0, .inr (8, [.ref gt, .ref gd, .ref gk, .ref gm, .ref gw, .ref go, .ref gta, .ref gsh, .ref gju, .int 0, .int 0, .int 0, .int 0, .int 12, .int 0, .int 0])), (gt, .inr (5, [.ref gtl, .ref gtn, .int 0])), (gtl, .inl (cC, 24, .inl (fun _ => 0))), (gtn, .inl (cI, 24, .inl (fun _ => 0))), (gd, .inr (6, [.ref gdi, .ref gde, .int 0, .int 0, .int 0])), (gdi, .inl (c1, 4, .inl (fun _ => 0))), (gde, .inl (c2, 6, .inl (fun _ => 0))), (gk, .inl (cK, 8, .inr (.inr (.inr (.inr gfk))))), (gk0, .inr (2, [.ref gkt, .int 0, .int 0])), (jo, .inl (cJ, 1, .inr (.inl jf)))] U.heap ∧ va_K (dC, dI) vwCl [(cC, .char), (cI, .int), (c1, .int), (c2, .int), (cK, .object "Katacode$Kata"), (cJ, .long)] U ∧ va_D (fun _ => True) [(h0, .inr (8, [.ref gt, .ref gd, .ref gk, .ref gm, .ref gw, .ref go, .ref gta, .ref gsh, .ref gju, .int 0, .int 0, .int 0, .int 0, .int 12, .int 0, .int 0])), (gt, .inr (5, [.ref gtl, .ref gtn, .int 0])), (gtl, .inl (cC, 24, .inl (fun _ => 0))), (gtn, .inl (cI, 24, .inl (fun _ => 0))), (gd, .inr (6, [.ref gdi, .ref gde, .int 0, .int 0, .int 0])), (gdi, .inl (c1, 4, .inl (fun _ => 0))), (gde, .inl (c2, 6, .inl (fun _ => 0))), (gk, .inl (cK, 8, .inr (.inr (.inr (.inr gfk))))), (gk0, .inr (2, [.ref gkt, .int 0, .int 0])), (jo, .inl (cJ, 1, .inr (.inl jf)))])) (va_Qi (fun (r : Int32) (u : Nat → Int64) => r = (stC p0 p1) ∧ ((stC p0 p1) = 0 → u 0 = 1)) (fun (u : Nat → Int64) (t : State) => va_P (dC, dI) vwCl [(jo, .inl (cJ, 1, .inr (.inl u)))] t.heap ∧ va_K (dC, dI) vwCl [(cJ, .long)] t ∧ va_D (va_A [(h0, .inr (8, [.ref gt, .ref gd, .ref gk, .ref gm, .ref gw, .ref go, .ref gta, .ref gsh, .ref gju, .int 0, .int 0, .int 0, .int 0, .int 12, .int 0, .int 0])), (gt, .inr (5, [.ref gtl, .ref gtn, .int 0])), (gtl, .inl (cC, 24, .inl (fun _ => 0))), (gtn, .inl (cI, 24, .inl (fun _ => 0))), (gd, .inr (6, [.ref gdi, .ref gde, .int 0, .int 0, .int 0])), (gdi, .inl (c1, 4, .inl (fun _ => 0))), (gde, .inl (c2, 6, .inl (fun _ => 0))), (gk, .inl (cK, 8, .inr (.inr (.inr (.inr gfk))))), (gk0, .inr (2, [.ref gkt, .int 0, .int 0])), (jo, .inl (cJ, 1, .inr (.inl jf)))] sz) [(jo, .inl (cJ, 1, .inr (.inl u)))]) (va_A [(h0, .inr (8, [.ref gt, .ref gd, .ref gk, .ref gm, .ref gw, .ref go, .ref gta, .ref gsh, .ref gju, .int 0, .int 0, .int 0, .int 0, .int 12, .int 0, .int 0])), (gt, .inr (5, [.ref gtl, .ref gtn, .int 0])), (gtl, .inl (cC, 24, .inl (fun _ => 0))), (gtn, .inl (cI, 24, .inl (fun _ => 0))), (gd, .inr (6, [.ref gdi, .ref gde, .int 0, .int 0, .int 0])), (gdi, .inl (c1, 4, .inl (fun _ => 0))), (gde, .inl (c2, 6, .inl (fun _ => 0))), (gk, .inl (cK, 8, .inr (.inr (.inr (.inr gfk))))), (gk0, .inr (2, [.ref gkt, .int 0, .int 0])), (jo, .inl (cJ, 1, .inr (.inl jf)))] sz)) (vx_X (fun _ : Unit => True) (fun (E : String) (_ : Unit) (_ : State) => False) (va_A [(h0, .inr (8, [.ref gt, .ref gd, .ref gk, .ref gm, .ref gw, .ref go, .ref gta, .ref gsh, .ref gju, .int 0, .int 0, .int 0, .int 0, .int 12, .int 0, .int 0])), (gt, .inr (5, [.ref gtl, .ref gtn, .int 0])), (gtl, .inl (cC, 24, .inl (fun _ => 0))), (gtn, .inl (cI, 24, .inl (fun _ => 0))), (gd, .inr (6, [.ref gdi, .ref gde, .int 0, .int 0, .int 0])), (gdi, .inl (c1, 4, .inl (fun _ => 0))), (gde, .inl (c2, 6, .inl (fun _ => 0))), (gk, .inl (cK, 8, .inr (.inr (.inr (.inr gfk))))), (gk0, .inr (2, [.ref gkt, .int 0, .int 0])), (jo, .inl (cJ, 1, .inr (.inl jf)))] sz)) 1 6 (va_A [(h0, .inr (8, [.ref gt, .ref gd, .ref gk, .ref gm, .ref gw, .ref go, .ref gta, .ref gsh, .ref gju, .int 0, .int 0, .int 0, .int 0, .int 12, .int 0, .int 0])), (gt, .inr (5, [.ref gtl, .ref gtn, .int 0])), (gtl, .inl (cC, 24, .inl (fun _ => 0))), (gtn, .inl (cI, 24, .inl (fun _ => 0))), (gd, .inr (6, [.ref gdi, .ref gde, .int 0, .int 0, .int 0])), (gdi, .inl (c1, 4, .inl (fun _ => 0))), (gde, .inl (c2, 6, .inl (fun _ => 0))), (gk, .inl (cK, 8, .inr (.inr (.inr (.inr gfk))))), (gk0, .inr (2, [.ref gkt, .int 0, .int 0])), (jo, .inl (cJ, 1, .inr (.inl jf)))] sz) := by
  refine vx_ofWH (cc := cL_step) (maxL := 5) (ret := (some .int)) (hh := [(0, 10, 13, 13), (0, 10, 17, 15)]) (by decide) rfl ?_
  intro p e s m args below meth c s₁ B hml hv
  obtain ⟨rfl, hsz, hE, hP, hK, hD0⟩ := hv
  have hx := B.exec
  have hb := B.bytes
  have hr := B.returns
  have hts := atoms_spec (ws := wsL_step) B.pre
  have hown : s.vm.findClass RL = some m.cls := findClass_of_methodNamed B.named
  have hlocks := B.notSynchronized
  have htab := vx_table (x := yL_step) B (hts (.codeWith yL_step cL_step 5 (some .int) [(0, 10, 13, 13), (0, 10, 17, 15)]) List.mem_cons_self)
  subst hsz
  have hD := hD0.self (sz := s.heap.size)
  generalize hAe : va_A [(h0, .inr (8, [.ref gt, .ref gd, .ref gk, .ref gm, .ref gw, .ref go, .ref gta, .ref gsh, .ref gju, .int 0, .int 0, .int 0, .int 0, .int 12, .int 0, .int 0])), (gt, .inr (5, [.ref gtl, .ref gtn, .int 0])), (gtl, .inl (cC, 24, .inl (fun _ => 0))), (gtn, .inl (cI, 24, .inl (fun _ => 0))), (gd, .inr (6, [.ref gdi, .ref gde, .int 0, .int 0, .int 0])), (gdi, .inl (c1, 4, .inl (fun _ => 0))), (gde, .inl (c2, 6, .inl (fun _ => 0))), (gk, .inl (cK, 8, .inr (.inr (.inr (.inr gfk))))), (gk0, .inr (2, [.ref gkt, .int 0, .int 0])), (jo, .inl (cJ, 1, .inr (.inl jf)))] s.heap.size = A at hD hE ⊢
  have hA : ∀ q : Nat, s.heap.size ≤ q → A q := fun q h => by rw [← hAe]; exact Or.inr h
  have hS : va_S A s.heap s.heap [] := va_S.rf
  have hP : va_P (dC, dI) vwCl [(h0, .inr (8, [.ref gt, .ref gd, .ref gk, .ref gm, .ref gw, .ref go, .ref gta, .ref gsh, .ref gju, .int 0, .int 0, .int 0, .int 0, .int 12, .int 0, .int 0])), (gt, .inr (5, [.ref gtl, .ref gtn, .int 0])), (gtl, .inl (cC, 24, .inl (fun _ => 0))), (gtn, .inl (cI, 24, .inl (fun _ => 0))), (gd, .inr (6, [.ref gdi, .ref gde, .int 0, .int 0, .int 0])), (gdi, .inl (c1, 4, .inl (fun _ => 0))), (gde, .inl (c2, 6, .inl (fun _ => 0))), (gk, .inl (cK, 8, .inr (.inr (.inr (.inr gfk))))), (gk0, .inr (2, [.ref gkt, .int 0, .int 0])), (jo, .inl (cJ, 1, .inr (.inl jf)))] s.heap := hP
  have hl := lv_entry ([.ref h0, .int p0, .int p1, .ref jo]) (n := 5) (Nat.le_of_ble_eq_true rfl)
  rw [lg_entry_eq]
  generalize (lg_sl ([.ref h0, .int p0, .int p1, .ref jo]) ++ List.replicate (5 - (lg_sl ([.ref h0, .int p0, .int p1, .ref jo])).length) Slot.unset).toArray = ls at hl ⊢
  have hl : lv_has ls 5 [(0, .ref h0), (1, .int p0), (2, .int p1), (3, .ref jo)] := hl
  refine lv_aload_n hx hb dL_step_0 rfl (lv_at hl 3 rfl) ?_
  refine lv_iconst (v := 0) hx hb dL_step_1 (by decide) ?_
  refine lv_aload_n hx hb dL_step_2 rfl (lv_at hl 0 rfl) ?_
  refine lv_iload_n hx hb dL_step_3 rfl (lv_at hl 1 rfl) ?_
  refine lv_iload_n hx hb dL_step_4 rfl (lv_at hl 2 rfl) ?_
  have hPc := hP.sub (ws' := [(h0, .inr (8, [.ref gt, .ref gd, .ref gk, .ref gm, .ref gw, .ref go, .ref gta, .ref gsh, .ref gju, .int 0, .int 0, .int 0, .int 0, .int 12, .int 0, .int 0])), (gt, .inr (5, [.ref gtl, .ref gtn, .int 0])), (gtl, .inl (cC, 24, .inl (fun _ => 0))), (gtn, .inl (cI, 24, .inl (fun _ => 0))), (gd, .inr (6, [.ref gdi, .ref gde, .int 0, .int 0, .int 0])), (gdi, .inl (c1, 4, .inl (fun _ => 0))), (gde, .inl (c2, 6, .inl (fun _ => 0))), (gk, .inl (cK, 8, .inr (.inr (.inr (.inr gfk))))), (gk0, .inr (2, [.ref gkt, .int 0, .int 0]))]) [0, 1, 2, 3, 4, 5, 6, 7, 8] rfl
  have hDc := hD.sub (ws' := [(h0, .inr (8, [.ref gt, .ref gd, .ref gk, .ref gm, .ref gw, .ref go, .ref gta, .ref gsh, .ref gju, .int 0, .int 0, .int 0, .int 0, .int 12, .int 0, .int 0])), (gt, .inr (5, [.ref gtl, .ref gtn, .int 0])), (gtl, .inl (cC, 24, .inl (fun _ => 0))), (gtn, .inl (cI, 24, .inl (fun _ => 0))), (gd, .inr (6, [.ref gdi, .ref gde, .int 0, .int 0, .int 0])), (gdi, .inl (c1, 4, .inl (fun _ => 0))), (gde, .inl (c2, 6, .inl (fun _ => 0))), (gk, .inl (cK, 8, .inr (.inr (.inr (.inr gfk))))), (gk0, .inr (2, [.ref gkt, .int 0, .int 0]))]) [0, 1, 2, 3, 4, 5, 6, 7, 8] (by decide) rfl
  have hKc := hK.sub (tys' := [(cC, .char), (cI, .int), (c1, .int), (c2, .int), (cK, .object "Katacode$Kata")]) [0, 1, 2, 3, 4] rfl
  have hFc := va_free (wc := [(h0, .inr (8, [.ref gt, .ref gd, .ref gk, .ref gm, .ref gw, .ref go, .ref gta, .ref gsh, .ref gju, .int 0, .int 0, .int 0, .int 0, .int 12, .int 0, .int 0])), (gt, .inr (5, [.ref gtl, .ref gtn, .int 0])), (gtl, .inl (cC, 24, .inl (fun _ => 0))), (gtn, .inl (cI, 24, .inl (fun _ => 0))), (gd, .inr (6, [.ref gdi, .ref gde, .int 0, .int 0, .int 0])), (gdi, .inl (c1, 4, .inl (fun _ => 0))), (gde, .inl (c2, 6, .inl (fun _ => 0))), (gk, .inl (cK, 8, .inr (.inr (.inr (.inr gfk))))), (gk0, .inr (2, [.ref gkt, .int 0, .int 0]))]) hD hS hA [0, 1, 2, 3, 4, 5, 6, 7, 8] rfl
  refine vx_calli (vx_runV (As := [.int p0, .int p1]) (rest := [.int 0, .ref jo]) ⟨hx, hb, hml, hown, hts⟩ (k_X6_step l hfl dC dI h0 gt gtl gtn gd gdi gde gk gk0 gkt gm gw go gta gsh gju cC cI c1 c2 cK gfk hfk s.heap.size p0 p1) (cwV 2 hts gL_step_X6_step rfl rfl rfl (by decide +kernel) ⟨Nat.le_of_ble_eq_true rfl, Nat.le_of_ble_eq_true rfl⟩) ⟨fun a U g mk q => by obtain ⟨q0, q1, qE, qP, qK, qD⟩ := q; exact ⟨q0, q1, EV.calling qE, qP, va_K.moved (u := U) (U := U.calling g mk a) (Vm.Alike.refl U.vm) qK, qD⟩, va_recv hKc hPc (ci := 8) (q0 := 0) rfl rfl, fun U hU hW => ⟨rfl, by rw [hU], EV.to hE hS hU hW (fun q h => hFc q h), by rw [hU]; exact hPc, va_K.moved hW.alike hKc, hDc.weaken (fun _ _ _ _ => trivial)⟩⟩ rfl rfl hl.1 rfl (lv_room (Nat.le_of_ble_eq_true rfl)) dL_step_5 ⟨(Nat.le_of_ble_eq_true rfl), (Nat.le_of_ble_eq_true rfl)⟩) hS (fun q _ h => hFc q h) hFc (fun q _ h => hFc q h) (fun E9 ce9 q9 u9 t9 H1 locs ht hvm hw hB hz1 hk1 hS hc9 hv9 hcl9 => ?_) (fun r1 u t H1 locs ht hvm hw hB hz1 hk1 hS => ?_)
  · skip
    obtain ⟨hB, hX9⟩ := hB
    obtain rfl : E9 = "java/lang/IllegalArgumentException" := hB
    refine vx_catch hown [] ⟨0, 10, 13, 13⟩ [⟨0, 10, 17, 15⟩] (htab.trans rfl) (fun z hz => nomatch hz) (by decide) (by decide) (hts (.classLink RL 13 "java/lang/IllegalArgumentException") (by decide +kernel)) (EV.cast hE (by decide +kernel)) hc9 hv9 hcl9 ?_
    obtain ⟨hP, hD⟩ := va_join (wr := [(jo, .inl (cJ, 1, .inr (.inl jf)))]) (w1 := []) hP hD [0, 1, 2, 3, 4, 5, 6, 7, 8] [9] rfl rfl (by decide) (by decide) hk1 hFc (fun k q h => by simp at h) ⟨fun i j p q h => by simp at h, fun k q h => by simp at h⟩
    generalize H1 = H at hP hS ⊢
    have hP : va_P (dC, dI) vwCl [(jo, .inl (cJ, 1, .inr (.inl jf)))] H := hP
    have hD : va_D A [(jo, .inl (cJ, 1, .inr (.inl jf)))] := hD
    refine lv_astore (lv' := [(4, .ref q9), (0, .ref h0), (1, .int p0), (2, .int p1), (3, .ref jo)]) hx hb dL_step_13 hl (by decide) rfl (fun ls hl => ?_)
    refine lv_iconst (v := 1) hx hb dL_step_15 (by decide) ?_
    refine W.widen (k := 1) (n := 6) (by decide) (by decide) ?_
    refine vx_ret ?_
    have hP9 := hP.sub (ws' := [(jo, .inl (cJ, 1, .inr (.inl jf)))]) [0] rfl
    have hD9 := hD.sub (ws' := [(jo, .inl (cJ, 1, .inr (.inl jf)))]) [0] (by decide) rfl
    have hK9 := hK.sub (tys' := [(cJ, .long)]) [5] rfl
    exact W.iret (v := 1) hx hb hr (fun t ht hW => ⟨⟨1, jf, rfl, ⟨hX9.symm, fun z => absurd (hX9.symm.trans z) (by decide)⟩, by rw [ht]; exact hP9, va_K.moved hW.alike hK9, hD9⟩, hS.F ht⟩) hS.2.2 dL_step_16
  · skip
    obtain ⟨hP, hD⟩ := va_join (wr := [(jo, .inl (cJ, 1, .inr (.inl jf)))]) (w1 := []) hP hD [0, 1, 2, 3, 4, 5, 6, 7, 8] [9] rfl rfl (by decide) (by decide) hk1 hFc (fun k q h => by simp at h) ⟨fun i j p q h => by simp at h, fun k q h => by simp at h⟩
    generalize H1 = H at hP hS ⊢
    have hP : va_P (dC, dI) vwCl [(jo, .inl (cJ, 1, .inr (.inl jf)))] H := hP
    have hD : va_D A [(jo, .inl (cJ, 1, .inr (.inl jf)))] := hD
    obtain ⟨hr9, hok9⟩ := hw
    obtain rfl : r1 = (1 : Int32) := hr9
    refine lv_i2l (v := 1) hx hb dL_step_8 (by decide) ?_
    refine va_last hx hb hK hP hD hS 0 5 rfl rfl (by unfold vp_in; decide) dL_step_9 (fun H locs hP hD hS => ?_)
    have hP : va_P (dC, dI) vwCl [(jo, .inl (cJ, 1, .inr (.inl (vp_updL jf (0 : Int32).toNatClampNeg 1))))] H := hP
    have hD : va_D A [(jo, .inl (cJ, 1, .inr (.inl (vp_updL jf (0 : Int32).toNatClampNeg 1))))] := hD
    refine lv_goto (tgt := 21) hx hb dL_step_10 (by decide) ?_
    refine lv_iconst (v := 0) hx hb dL_step_21 (by decide) ?_
    refine W.widen (k := 1) (n := 6) (by decide) (by decide) ?_
    refine vx_ret ?_
    have hP9 := hP.sub (ws' := [(jo, .inl (cJ, 1, .inr (.inl (vp_updL jf (0 : Int32).toNatClampNeg 1))))]) [0] rfl
    have hD9 := hD.sub (ws' := [(jo, .inl (cJ, 1, .inr (.inl (vp_updL jf (0 : Int32).toNatClampNeg 1))))]) [0] (by decide) rfl
    have hK9 := hK.sub (tys' := [(cJ, .long)]) [5] rfl
    exact W.iret (v := 0) hx hb hr (fun t ht hW => ⟨⟨0, (vp_updL jf (0 : Int32).toNatClampNeg 1), rfl, ⟨hok9.symm, fun _ => rfl⟩, by rw [ht]; exact hP9, va_K.moved hW.alike hK9, hD9⟩, hS.F ht⟩) hS.2.2 dL_step_22
set_option maxHeartbeats 4000000 in
set_option maxRecDepth 100000 in
theorem k_X7_isOneOf (l : Launch) (hfl : l.stackTraces = false) (dC : Nat → ClassId) (dI : Nat → Nat → Nat) (sz : Nat) (p0 : Int32) (p1 : Int32) (p2 : Int32) (p3 : Int32) (p4 : Int32) : vx_Met l yX7_isOneOf wsX7_isOneOf ({ frames := 1, cells := 0, slots := 0, locals := 12 }) (va_Pc [.int p0, .int p1, .int p2, .int p3, .int p4] (fun U => U.heap.size = sz ∧ EV (va_A [] sz) U ∧ va_P (dC, dI) vwCl [] U.heap ∧ va_K (dC, dI) vwCl [] U ∧ va_D (fun _ => True) [])) (va_Qi (fun (r : Int32) (u : Unit) => r = oneC p0 p1 p2 p3 p4) (fun (u : Unit) (t : State) => va_P (dC, dI) vwCl [] t.heap ∧ va_K (dC, dI) vwCl [] t ∧ va_D (va_A [] sz) []) (va_A [] sz)) (vx_X (fun _ : Unit => True) (fun (E : String) (_ : Unit) (_ : State) => False) (va_A [] sz)) 0 0 (va_A [] sz) := by
  refine vx_ofW (cc := cX7_isOneOf) (maxL := 5) (ret := (some .boolean)) (by decide) rfl ?_
  intro p e s m args below meth c s₁ B hml htab hv
  obtain ⟨rfl, hsz, hE, hP, hK, hD0⟩ := hv
  have hx := B.exec
  have hb := B.bytes
  have hr := B.returns
  have hts := atoms_spec (ws := wsX7_isOneOf) B.pre
  have hown : s.vm.findClass RX7 = some m.cls := findClass_of_methodNamed B.named
  have hlocks := B.notSynchronized
  have hout9 : ∀ (pc9 : Nat), ∀ x ∈ c.exceptionTable.toList, covers x pc9 = false := fun _ x hx9 => (htab x hx9).elim
  subst hsz
  have hD := hD0.self (sz := s.heap.size)
  generalize hAe : va_A [] s.heap.size = A at hD hE ⊢
  have hA : ∀ q : Nat, s.heap.size ≤ q → A q := fun q h => by rw [← hAe]; exact Or.inr h
  have hS : va_S A s.heap s.heap [] := va_S.rf
  have hP : va_P (dC, dI) vwCl [] s.heap := hP
  have hl := lv_entry ([.int p0, .int p1, .int p2, .int p3, .int p4]) (n := 5) (Nat.le_of_ble_eq_true rfl)
  rw [lg_entry_eq]
  generalize (lg_sl ([.int p0, .int p1, .int p2, .int p3, .int p4]) ++ List.replicate (5 - (lg_sl ([.int p0, .int p1, .int p2, .int p3, .int p4])).length) Slot.unset).toArray = ls at hl ⊢
  have hl : lv_has ls 5 [(0, .int p0), (1, .int p1), (2, .int p2), (3, .int p3), (4, .int p4)] := hl
  refine lv_iload_n hx hb dX7_isOneOf_0 rfl (lv_at hl 0 rfl) ?_
  refine lv_iload_n hx hb dX7_isOneOf_1 rfl (lv_at hl 1 rfl) ?_
  refine lv_icmp_eq (tgt := 21) hx hb dX7_isOneOf_2 (by decide) (fun cz1 => ?_) (fun cz1 => ?_)
  · skip
    refine lv_iconst (v := 1) hx hb dX7_isOneOf_21 (by decide) ?_
    refine lv_goto (tgt := 26) hx hb dX7_isOneOf_22 (by decide) ?_
    refine W.widen (k := 0) (n := 0) (by decide) (by decide) ?_
    refine vx_ret ?_
    have hP9 := hP.sub (ws' := []) [] rfl
    have hD9 := hD.sub (ws' := []) [] (by decide) rfl
    have hK9 := hK.sub (tys' := []) [] rfl
    exact W.zret (v := 1) hx hb hr (by decide) (fun t ht hW => ⟨⟨1, (), rfl, by simp [oneC, cz1], by rw [ht]; exact hP9, va_K.moved hW.alike hK9, hD9⟩, hS.F ht⟩) hS.2.2 dX7_isOneOf_26
  · skip
    refine lv_iload_n hx hb dX7_isOneOf_5 rfl (lv_at hl 0 rfl) ?_
    refine lv_iload_n hx hb dX7_isOneOf_6 rfl (lv_at hl 2 rfl) ?_
    refine lv_icmp_eq (tgt := 21) hx hb dX7_isOneOf_7 (by decide) (fun cz2 => ?_) (fun cz2 => ?_)
    · skip
      refine lv_iconst (v := 1) hx hb dX7_isOneOf_21 (by decide) ?_
      refine lv_goto (tgt := 26) hx hb dX7_isOneOf_22 (by decide) ?_
      refine W.widen (k := 0) (n := 0) (by decide) (by decide) ?_
      refine vx_ret ?_
      have hP9 := hP.sub (ws' := []) [] rfl
      have hD9 := hD.sub (ws' := []) [] (by decide) rfl
      have hK9 := hK.sub (tys' := []) [] rfl
      exact W.zret (v := 1) hx hb hr (by decide) (fun t ht hW => ⟨⟨1, (), rfl, by simp [oneC, cz1, cz2], by rw [ht]; exact hP9, va_K.moved hW.alike hK9, hD9⟩, hS.F ht⟩) hS.2.2 dX7_isOneOf_26
    · skip
      refine lv_iload_n hx hb dX7_isOneOf_10 rfl (lv_at hl 0 rfl) ?_
      refine lv_iload_n hx hb dX7_isOneOf_11 rfl (lv_at hl 3 rfl) ?_
      refine lv_icmp_eq (tgt := 21) hx hb dX7_isOneOf_12 (by decide) (fun cz3 => ?_) (fun cz3 => ?_)
      · skip
        refine lv_iconst (v := 1) hx hb dX7_isOneOf_21 (by decide) ?_
        refine lv_goto (tgt := 26) hx hb dX7_isOneOf_22 (by decide) ?_
        refine W.widen (k := 0) (n := 0) (by decide) (by decide) ?_
        refine vx_ret ?_
        have hP9 := hP.sub (ws' := []) [] rfl
        have hD9 := hD.sub (ws' := []) [] (by decide) rfl
        have hK9 := hK.sub (tys' := []) [] rfl
        exact W.zret (v := 1) hx hb hr (by decide) (fun t ht hW => ⟨⟨1, (), rfl, by simp [oneC, cz1, cz2, cz3], by rw [ht]; exact hP9, va_K.moved hW.alike hK9, hD9⟩, hS.F ht⟩) hS.2.2 dX7_isOneOf_26
      · skip
        refine lv_iload_n hx hb dX7_isOneOf_15 rfl (lv_at hl 0 rfl) ?_
        refine lv_iload hx hb dX7_isOneOf_16 (lv_at hl 4 rfl) ?_
        refine lv_icmp_ne (tgt := 25) hx hb dX7_isOneOf_18 (by decide) (fun cz4 => ?_) (fun cz4 => ?_)
        · skip
          refine lv_iconst (v := 0) hx hb dX7_isOneOf_25 (by decide) ?_
          refine W.widen (k := 0) (n := 0) (by decide) (by decide) ?_
          refine vx_ret ?_
          have hP9 := hP.sub (ws' := []) [] rfl
          have hD9 := hD.sub (ws' := []) [] (by decide) rfl
          have hK9 := hK.sub (tys' := []) [] rfl
          exact W.zret (v := 0) hx hb hr (by decide) (fun t ht hW => ⟨⟨0, (), rfl, by simp [oneC, cz1, cz2, cz3, cz4], by rw [ht]; exact hP9, va_K.moved hW.alike hK9, hD9⟩, hS.F ht⟩) hS.2.2 dX7_isOneOf_26
        · skip
          refine lv_iconst (v := 1) hx hb dX7_isOneOf_21 (by decide) ?_
          refine lv_goto (tgt := 26) hx hb dX7_isOneOf_22 (by decide) ?_
          refine W.widen (k := 0) (n := 0) (by decide) (by decide) ?_
          refine vx_ret ?_
          have hP9 := hP.sub (ws' := []) [] rfl
          have hD9 := hD.sub (ws' := []) [] (by decide) rfl
          have hK9 := hK.sub (tys' := []) [] rfl
          exact W.zret (v := 1) hx hb hr (by decide) (fun t ht hW => ⟨⟨1, (), rfl, by simp [oneC, cz1, cz2, cz3, cz4], by rw [ht]; exact hP9, va_K.moved hW.alike hK9, hD9⟩, hS.F ht⟩) hS.2.2 dX7_isOneOf_26
set_option maxHeartbeats 4000000 in
set_option maxRecDepth 100000 in
theorem k_X7_isLetter (l : Launch) (hfl : l.stackTraces = false) (dC : Nat → ClassId) (dI : Nat → Nat → Nat) (sz : Nat) (p0 : Int32) : vx_Met l yX7_isLetter wsX7_isLetter ({ frames := 2, cells := 0, slots := 0, locals := 36 }) (va_Pc [.int p0] (fun U => U.heap.size = sz ∧ EV (va_A [] sz) U ∧ va_P (dC, dI) vwCl [] U.heap ∧ va_K (dC, dI) vwCl [] U ∧ va_D (fun _ => True) [])) (va_Qi (fun (r : Int32) (u : Unit) => r = letC p0) (fun (u : Unit) (t : State) => va_P (dC, dI) vwCl [] t.heap ∧ va_K (dC, dI) vwCl [] t ∧ va_D (va_A [] sz) []) (va_A [] sz)) (vx_X (fun _ : Unit => True) (fun (E : String) (_ : Unit) (_ : State) => False) (va_A [] sz)) 0 0 (va_A [] sz) := by
  refine vx_ofW (cc := cX7_isLetter) (maxL := 1) (ret := (some .boolean)) (by decide) rfl ?_
  intro p e s m args below meth c s₁ B hml htab hv
  obtain ⟨rfl, hsz, hE, hP, hK, hD0⟩ := hv
  have hx := B.exec
  have hb := B.bytes
  have hr := B.returns
  have hts := atoms_spec (ws := wsX7_isLetter) B.pre
  have hown : s.vm.findClass RX7 = some m.cls := findClass_of_methodNamed B.named
  have hlocks := B.notSynchronized
  have hout9 : ∀ (pc9 : Nat), ∀ x ∈ c.exceptionTable.toList, covers x pc9 = false := fun _ x hx9 => (htab x hx9).elim
  subst hsz
  have hD := hD0.self (sz := s.heap.size)
  generalize hAe : va_A [] s.heap.size = A at hD hE ⊢
  have hA : ∀ q : Nat, s.heap.size ≤ q → A q := fun q h => by rw [← hAe]; exact Or.inr h
  have hS : va_S A s.heap s.heap [] := va_S.rf
  have hP : va_P (dC, dI) vwCl [] s.heap := hP
  have hl := lv_entry ([.int p0]) (n := 1) (Nat.le_of_ble_eq_true rfl)
  rw [lg_entry_eq]
  generalize (lg_sl ([.int p0]) ++ List.replicate (1 - (lg_sl ([.int p0])).length) Slot.unset).toArray = ls at hl ⊢
  have hl : lv_has ls 1 [(0, .int p0)] := hl
  refine lv_iload_n hx hb dX7_isLetter_0 rfl (lv_at hl 0 rfl) ?_
  refine lv_bipush (v := 110) hx hb dX7_isLetter_1 (by decide) ?_
  refine lv_bipush (v := 105) hx hb dX7_isLetter_3 (by decide) ?_
  refine lv_bipush (v := 43) hx hb dX7_isLetter_5 (by decide) ?_
  refine lv_bipush (v := 45) hx hb dX7_isLetter_7 (by decide) ?_
  have hPc := hP.sub (ws' := []) [] rfl
  have hDc := hD.sub (ws' := []) [] (by decide) rfl
  have hKc := hK.sub (tys' := []) [] rfl
  have hFc := va_free (wc := []) hD hS hA [] rfl
  refine vx_calli (vx_runS (As := [.int p0, .int 110, .int 105, .int 43, .int 45]) (rest := []) ⟨hx, hb, hml, hown, hts⟩ (k_X7_isOneOf l hfl dC dI s.heap.size p0 110 105 43 45) (va_cwS 5 hts gX7_isLetter_X7_isOneOf rfl rfl rfl (by decide +kernel) ⟨Nat.le_of_ble_eq_true rfl, Nat.le_of_ble_eq_true rfl⟩) ⟨fun a U g mk q => by obtain ⟨q0, q1, qE, qP, qK, qD⟩ := q; exact ⟨q0, q1, EV.calling qE, qP, va_K.moved (u := U) (U := U.calling g mk a) (Vm.Alike.refl U.vm) qK, qD⟩, fun U hU hW => ⟨rfl, by rw [hU], EV.to hE hS hU hW (fun q h => hFc q h), by rw [hU]; exact hPc, va_K.moved hW.alike hKc, hDc.weaken (fun _ _ _ _ => trivial)⟩⟩ rfl rfl hl.1 rfl (lv_room (Nat.le_of_ble_eq_true rfl)) dX7_isLetter_9 ⟨(Nat.le_of_ble_eq_true rfl), (Nat.le_of_ble_eq_true rfl)⟩) hS (fun q _ h => hFc q h) hFc (fun q _ h => hFc q h) (fun E9 ce9 q9 u9 t9 H1 locs ht hvm hw hB hz1 hk1 hS hc9 hv9 hcl9 => ?_) (fun r1 u t H1 locs ht hvm hw hB hz1 hk1 hS => ?_)
  · exact hB.elim
  · skip
    obtain ⟨hP1, hK1, hD1⟩ := hB
    rw [ht] at hP1
    have hK1 := va_K.moved hvm.symm hK1
    try dsimp only at hw
    have hP1 : va_P (dC, dI) vwCl [] H1 := hP1
    obtain ⟨hP, hD⟩ := va_join (wr := []) hP hD [] [] rfl rfl (by decide) (by decide) hk1 hFc hP1 hD1
    have hK := (hK.sub (tys' := []) [] rfl).app hK1
    generalize H1 = H at hP hS ⊢
    have hP : va_P (dC, dI) vwCl [] H := hP
    have hD : va_D A [] := hD
    have hK : va_K (dC, dI) vwCl [] s := hK.sub (tys' := []) [] rfl
    obtain rfl : r1 = (oneC p0 110 105 43 45) := hw
    refine lv_if_ne (tgt := 45) hx hb dX7_isLetter_12 (by decide) (fun cz2 => ?_) (fun cz2 => ?_)
    · skip
      refine lv_iconst (v := 1) hx hb dX7_isLetter_45 (by decide) ?_
      refine lv_goto (tgt := 50) hx hb dX7_isLetter_46 (by decide) ?_
      refine W.widen (k := 0) (n := 0) (by decide) (by decide) ?_
      refine vx_ret ?_
      have hP9 := hP.sub (ws' := []) [] rfl
      have hD9 := hD.sub (ws' := []) [] (by decide) rfl
      have hK9 := hK.sub (tys' := []) [] rfl
      exact W.zret (v := 1) hx hb hr (by decide) (fun t ht hW => ⟨⟨1, (), rfl, by simp [letC, cz2], by rw [ht]; exact hP9, va_K.moved hW.alike hK9, hD9⟩, hS.F ht⟩) hS.2.2 dX7_isLetter_50
    · skip
      refine lv_iload_n hx hb dX7_isLetter_15 rfl (lv_at hl 0 rfl) ?_
      refine lv_bipush (v := 42) hx hb dX7_isLetter_16 (by decide) ?_
      refine lv_bipush (v := 37) hx hb dX7_isLetter_18 (by decide) ?_
      refine lv_bipush (v := 100) hx hb dX7_isLetter_20 (by decide) ?_
      refine lv_bipush (v := 115) hx hb dX7_isLetter_22 (by decide) ?_
      have hPc := hP.sub (ws' := []) [] rfl
      have hDc := hD.sub (ws' := []) [] (by decide) rfl
      have hKc := hK.sub (tys' := []) [] rfl
      have hFc := va_free (wc := []) hD hS hA [] rfl
      refine vx_calli (vx_runS (As := [.int p0, .int 42, .int 37, .int 100, .int 115]) (rest := []) ⟨hx, hb, hml, hown, hts⟩ (k_X7_isOneOf l hfl dC dI H.size p0 42 37 100 115) (va_cwS 5 hts gX7_isLetter_X7_isOneOf rfl rfl rfl (by decide +kernel) ⟨Nat.le_of_ble_eq_true rfl, Nat.le_of_ble_eq_true rfl⟩) ⟨fun a U g mk q => by obtain ⟨q0, q1, qE, qP, qK, qD⟩ := q; exact ⟨q0, q1, EV.calling qE, qP, va_K.moved (u := U) (U := U.calling g mk a) (Vm.Alike.refl U.vm) qK, qD⟩, fun U hU hW => ⟨rfl, by rw [hU], EV.to hE hS hU hW (fun q h => hFc q h), by rw [hU]; exact hPc, va_K.moved hW.alike hKc, hDc.weaken (fun _ _ _ _ => trivial)⟩⟩ rfl rfl hl.1 rfl (lv_room (Nat.le_of_ble_eq_true rfl)) dX7_isLetter_24 ⟨(Nat.le_of_ble_eq_true rfl), (Nat.le_of_ble_eq_true rfl)⟩) hS (fun q _ h => hFc q h) hFc (fun q _ h => hFc q h) (fun E9 ce9 q9 u9 t9 H1 locs ht hvm hw hB hz1 hk1 hS hc9 hv9 hcl9 => ?_) (fun r3 u t H1 locs ht hvm hw hB hz1 hk1 hS => ?_)
      · exact hB.elim
      · skip
        obtain ⟨hP1, hK1, hD1⟩ := hB
        rw [ht] at hP1
        have hK1 := va_K.moved hvm.symm hK1
        try dsimp only at hw
        have hP1 : va_P (dC, dI) vwCl [] H1 := hP1
        obtain ⟨hP, hD⟩ := va_join (wr := []) hP hD [] [] rfl rfl (by decide) (by decide) hk1 hFc hP1 hD1
        have hK := (hK.sub (tys' := []) [] rfl).app hK1
        generalize H1 = H at hP hS ⊢
        have hP : va_P (dC, dI) vwCl [] H := hP
        have hD : va_D A [] := hD
        have hK : va_K (dC, dI) vwCl [] s := hK.sub (tys' := []) [] rfl
        obtain rfl : r3 = (oneC p0 42 37 100 115) := hw
        refine lv_if_ne (tgt := 45) hx hb dX7_isLetter_27 (by decide) (fun cz4 => ?_) (fun cz4 => ?_)
        · skip
          refine lv_iconst (v := 1) hx hb dX7_isLetter_45 (by decide) ?_
          refine lv_goto (tgt := 50) hx hb dX7_isLetter_46 (by decide) ?_
          refine W.widen (k := 0) (n := 0) (by decide) (by decide) ?_
          refine vx_ret ?_
          have hP9 := hP.sub (ws' := []) [] rfl
          have hD9 := hD.sub (ws' := []) [] (by decide) rfl
          have hK9 := hK.sub (tys' := []) [] rfl
          exact W.zret (v := 1) hx hb hr (by decide) (fun t ht hW => ⟨⟨1, (), rfl, by simp [letC, cz2, cz4], by rw [ht]; exact hP9, va_K.moved hW.alike hK9, hD9⟩, hS.F ht⟩) hS.2.2 dX7_isLetter_50
        · skip
          refine lv_iload_n hx hb dX7_isLetter_30 rfl (lv_at hl 0 rfl) ?_
          refine lv_bipush (v := 112) hx hb dX7_isLetter_31 (by decide) ?_
          refine lv_bipush (v := 111) hx hb dX7_isLetter_33 (by decide) ?_
          refine lv_bipush (v := 91) hx hb dX7_isLetter_35 (by decide) ?_
          refine lv_bipush (v := 93) hx hb dX7_isLetter_37 (by decide) ?_
          have hPc := hP.sub (ws' := []) [] rfl
          have hDc := hD.sub (ws' := []) [] (by decide) rfl
          have hKc := hK.sub (tys' := []) [] rfl
          have hFc := va_free (wc := []) hD hS hA [] rfl
          refine vx_calli (vx_runS (As := [.int p0, .int 112, .int 111, .int 91, .int 93]) (rest := []) ⟨hx, hb, hml, hown, hts⟩ (k_X7_isOneOf l hfl dC dI H.size p0 112 111 91 93) (va_cwS 5 hts gX7_isLetter_X7_isOneOf rfl rfl rfl (by decide +kernel) ⟨Nat.le_of_ble_eq_true rfl, Nat.le_of_ble_eq_true rfl⟩) ⟨fun a U g mk q => by obtain ⟨q0, q1, qE, qP, qK, qD⟩ := q; exact ⟨q0, q1, EV.calling qE, qP, va_K.moved (u := U) (U := U.calling g mk a) (Vm.Alike.refl U.vm) qK, qD⟩, fun U hU hW => ⟨rfl, by rw [hU], EV.to hE hS hU hW (fun q h => hFc q h), by rw [hU]; exact hPc, va_K.moved hW.alike hKc, hDc.weaken (fun _ _ _ _ => trivial)⟩⟩ rfl rfl hl.1 rfl (lv_room (Nat.le_of_ble_eq_true rfl)) dX7_isLetter_39 ⟨(Nat.le_of_ble_eq_true rfl), (Nat.le_of_ble_eq_true rfl)⟩) hS (fun q _ h => hFc q h) hFc (fun q _ h => hFc q h) (fun E9 ce9 q9 u9 t9 H1 locs ht hvm hw hB hz1 hk1 hS hc9 hv9 hcl9 => ?_) (fun r5 u t H1 locs ht hvm hw hB hz1 hk1 hS => ?_)
          · exact hB.elim
          · skip
            obtain ⟨hP1, hK1, hD1⟩ := hB
            rw [ht] at hP1
            have hK1 := va_K.moved hvm.symm hK1
            try dsimp only at hw
            have hP1 : va_P (dC, dI) vwCl [] H1 := hP1
            obtain ⟨hP, hD⟩ := va_join (wr := []) hP hD [] [] rfl rfl (by decide) (by decide) hk1 hFc hP1 hD1
            have hK := (hK.sub (tys' := []) [] rfl).app hK1
            generalize H1 = H at hP hS ⊢
            have hP : va_P (dC, dI) vwCl [] H := hP
            have hD : va_D A [] := hD
            have hK : va_K (dC, dI) vwCl [] s := hK.sub (tys' := []) [] rfl
            obtain rfl : r5 = (oneC p0 112 111 91 93) := hw
            refine lv_if_eq (tgt := 49) hx hb dX7_isLetter_42 (by decide) (fun cz6 => ?_) (fun cz6 => ?_)
            · skip
              refine lv_iconst (v := 0) hx hb dX7_isLetter_49 (by decide) ?_
              refine W.widen (k := 0) (n := 0) (by decide) (by decide) ?_
              refine vx_ret ?_
              have hP9 := hP.sub (ws' := []) [] rfl
              have hD9 := hD.sub (ws' := []) [] (by decide) rfl
              have hK9 := hK.sub (tys' := []) [] rfl
              exact W.zret (v := 0) hx hb hr (by decide) (fun t ht hW => ⟨⟨0, (), rfl, by simp [letC, cz2, cz4, cz6], by rw [ht]; exact hP9, va_K.moved hW.alike hK9, hD9⟩, hS.F ht⟩) hS.2.2 dX7_isLetter_50
            · skip
              refine lv_iconst (v := 1) hx hb dX7_isLetter_45 (by decide) ?_
              refine lv_goto (tgt := 50) hx hb dX7_isLetter_46 (by decide) ?_
              refine W.widen (k := 0) (n := 0) (by decide) (by decide) ?_
              refine vx_ret ?_
              have hP9 := hP.sub (ws' := []) [] rfl
              have hD9 := hD.sub (ws' := []) [] (by decide) rfl
              have hK9 := hK.sub (tys' := []) [] rfl
              exact W.zret (v := 1) hx hb hr (by decide) (fun t ht hW => ⟨⟨1, (), rfl, by simp [letC, cz2, cz4, cz6], by rw [ht]; exact hP9, va_K.moved hW.alike hK9, hD9⟩, hS.F ht⟩) hS.2.2 dX7_isLetter_50
set_option maxHeartbeats 4000000 in
set_option maxRecDepth 100000 in
theorem k_X7_step (l : Launch) (hfl : l.stackTraces = false) (dC : Nat → ClassId) (dI : Nat → Nat → Nat) (h0 a10 a11 a12 a13 a14 a15 a16 a17 a18 a19 a20 a21 a22 a23 a24 a25 a26 a27 a28 a29 a30 a31 a32 a33 a34 a35 a36 a37 a45 : Nat) (mC m11 m12 m13 m14 m15 m34 : ClassId) (sz : Nat) (p0 : Int32) (p1 : Int32) : vx_Met l yX7_step wsX7_step ({ frames := 3, cells := 0, slots := 0, locals := 56 }) (va_Pc [.ref h0, .int p0, .int p1] (fun U => U.heap.size = sz ∧ EV (va_A [(h0, .inr (9, [.int 0, .int 0, .int 0, .int 0, .int 0, .int 0, .int 12, .int 0, .int 0, .int 0, .ref a10, .ref a11, .ref a12, .ref a13, .ref a14, .ref a15, .ref a16, .ref a17, .ref a18, .ref a19, .ref a20, .ref a21, .ref a22, .ref a23, .ref a24, .ref a25, .ref a26, .ref a27, .ref a28, .ref a29, .ref a30, .ref a31, .ref a32, .ref a33, .ref a34, .ref a35, .ref a36, .ref a37, .int 0, .int 0, .int 0, .int 0, .int 0, .int 0, .int 0, .ref a45])), (a10, .inl (mC, 984, .inl (fun _ => 0))), (a11, .inl (m11, 984, .inl (fun _ => 0))), (a12, .inl (m12, 41, .inl (fun _ => 0))), (a13, .inl (m13, 4, .inl (fun _ => 0))), (a14, .inl (m14, 6, .inl (fun _ => 0))), (a15, .inl (m15, 8, .inl (fun _ => 0))), (a34, .inl (m34, 10, .inl (fun _ => 0)))] sz) U ∧ va_P (dC, dI) vwCl [(h0, .inr (9, [.int 0, .int 0, .int 0, .int 0, .int 0, .int 0, .int 12, .int 0, .int 0, .int 0, .ref a10, .ref a11, .ref a12, .ref a13, .ref a14, .ref a15, .ref a16, .ref a17, .ref a18, .ref a19, .ref a20, .ref a21, .ref a22, .ref a23, .ref a24, .ref a25, .ref a26, .ref a27, .ref a28, .ref a29, .ref a30, .ref a31, .ref a32, .ref a33, .ref a34, .ref a35, .ref a36, .ref a37, .int 0, .int 0, .int 0, .int 0, .int 0, .int 0, .int 0, .ref a45])), (a10, .inl (mC, 984, .inl (fun _ => 0))), (a11, .inl (m11, 984, .inl (fun _ => 0))), (a12, .inl (m12, 41, .inl (fun _ => 0))), (a13, .inl (m13, 4, .inl (fun _ => 0))), (a14, .inl (m14, 6, .inl (fun _ => 0))), (a15, .inl (m15, 8, .inl (fun _ => 0))), (a34, .inl (m34, 10, .inl (fun _ => 0)))] U.heap ∧ va_K (dC, dI) vwCl [(mC, .char), (m11, .int), (m12, .int), (m13, .int), (m14, .int), (m15, .int), (m34, .int)] U ∧ va_D (fun _ => True) [(h0, .inr (9, [.int 0, .int 0, .int 0, .int 0, .int 0, .int 0, .int 12, .int 0, .int 0, .int 0, .ref a10, .ref a11, .ref a12, .ref a13, .ref a14, .ref a15, .ref a16, .ref a17, .ref a18, .ref a19, .ref a20, .ref a21, .ref a22, .ref a23, .ref a24, .ref a25, .ref a26, .ref a27, .ref a28, .ref a29, .ref a30, .ref a31, .ref a32, .ref a33, .ref a34, .ref a35, .ref a36, .ref a37, .int 0, .int 0, .int 0, .int 0, .int 0, .int 0, .int 0, .ref a45])), (a10, .inl (mC, 984, .inl (fun _ => 0))), (a11, .inl (m11, 984, .inl (fun _ => 0))), (a12, .inl (m12, 41, .inl (fun _ => 0))), (a13, .inl (m13, 4, .inl (fun _ => 0))), (a14, .inl (m14, 6, .inl (fun _ => 0))), (a15, .inl (m15, 8, .inl (fun _ => 0))), (a34, .inl (m34, 10, .inl (fun _ => 0)))])) (va_Qi (fun (r : Int32) (u : List Value) => u[9]? = some (.int (stM p0 p1)) ∧ (stM p0 p1 = 0 → r = 1)) (fun (u : List Value) (t : State) => va_P (dC, dI) vwCl [(h0, .inr (9, u))] t.heap ∧ va_K (dC, dI) vwCl [] t ∧ va_D (va_A [(h0, .inr (9, [.int 0, .int 0, .int 0, .int 0, .int 0, .int 0, .int 12, .int 0, .int 0, .int 0, .ref a10, .ref a11, .ref a12, .ref a13, .ref a14, .ref a15, .ref a16, .ref a17, .ref a18, .ref a19, .ref a20, .ref a21, .ref a22, .ref a23, .ref a24, .ref a25, .ref a26, .ref a27, .ref a28, .ref a29, .ref a30, .ref a31, .ref a32, .ref a33, .ref a34, .ref a35, .ref a36, .ref a37, .int 0, .int 0, .int 0, .int 0, .int 0, .int 0, .int 0, .ref a45])), (a10, .inl (mC, 984, .inl (fun _ => 0))), (a11, .inl (m11, 984, .inl (fun _ => 0))), (a12, .inl (m12, 41, .inl (fun _ => 0))), (a13, .inl (m13, 4, .inl (fun _ => 0))), (a14, .inl (m14, 6, .inl (fun _ => 0))), (a15, .inl (m15, 8, .inl (fun _ => 0))), (a34, .inl (m34, 10, .inl (fun _ => 0)))] sz) [(h0, .inr (9, u))]) (va_A [(h0, .inr (9, [.int 0, .int 0, .int 0, .int 0, .int 0, .int 0, .int 12, .int 0, .int 0, .int 0, .ref a10, .ref a11, .ref a12, .ref a13, .ref a14, .ref a15, .ref a16, .ref a17, .ref a18, .ref a19, .ref a20, .ref a21, .ref a22, .ref a23, .ref a24, .ref a25, .ref a26, .ref a27, .ref a28, .ref a29, .ref a30, .ref a31, .ref a32, .ref a33, .ref a34, .ref a35, .ref a36, .ref a37, .int 0, .int 0, .int 0, .int 0, .int 0, .int 0, .int 0, .ref a45])), (a10, .inl (mC, 984, .inl (fun _ => 0))), (a11, .inl (m11, 984, .inl (fun _ => 0))), (a12, .inl (m12, 41, .inl (fun _ => 0))), (a13, .inl (m13, 4, .inl (fun _ => 0))), (a14, .inl (m14, 6, .inl (fun _ => 0))), (a15, .inl (m15, 8, .inl (fun _ => 0))), (a34, .inl (m34, 10, .inl (fun _ => 0)))] sz)) (vx_X (fun _ : Unit => True) (fun (E : String) (_ : Unit) (_ : State) => False) (va_A [(h0, .inr (9, [.int 0, .int 0, .int 0, .int 0, .int 0, .int 0, .int 12, .int 0, .int 0, .int 0, .ref a10, .ref a11, .ref a12, .ref a13, .ref a14, .ref a15, .ref a16, .ref a17, .ref a18, .ref a19, .ref a20, .ref a21, .ref a22, .ref a23, .ref a24, .ref a25, .ref a26, .ref a27, .ref a28, .ref a29, .ref a30, .ref a31, .ref a32, .ref a33, .ref a34, .ref a35, .ref a36, .ref a37, .int 0, .int 0, .int 0, .int 0, .int 0, .int 0, .int 0, .ref a45])), (a10, .inl (mC, 984, .inl (fun _ => 0))), (a11, .inl (m11, 984, .inl (fun _ => 0))), (a12, .inl (m12, 41, .inl (fun _ => 0))), (a13, .inl (m13, 4, .inl (fun _ => 0))), (a14, .inl (m14, 6, .inl (fun _ => 0))), (a15, .inl (m15, 8, .inl (fun _ => 0))), (a34, .inl (m34, 10, .inl (fun _ => 0)))] sz)) 0 0 (va_A [(h0, .inr (9, [.int 0, .int 0, .int 0, .int 0, .int 0, .int 0, .int 12, .int 0, .int 0, .int 0, .ref a10, .ref a11, .ref a12, .ref a13, .ref a14, .ref a15, .ref a16, .ref a17, .ref a18, .ref a19, .ref a20, .ref a21, .ref a22, .ref a23, .ref a24, .ref a25, .ref a26, .ref a27, .ref a28, .ref a29, .ref a30, .ref a31, .ref a32, .ref a33, .ref a34, .ref a35, .ref a36, .ref a37, .int 0, .int 0, .int 0, .int 0, .int 0, .int 0, .int 0, .ref a45])), (a10, .inl (mC, 984, .inl (fun _ => 0))), (a11, .inl (m11, 984, .inl (fun _ => 0))), (a12, .inl (m12, 41, .inl (fun _ => 0))), (a13, .inl (m13, 4, .inl (fun _ => 0))), (a14, .inl (m14, 6, .inl (fun _ => 0))), (a15, .inl (m15, 8, .inl (fun _ => 0))), (a34, .inl (m34, 10, .inl (fun _ => 0)))] sz) := by
  refine vx_ofW (cc := cX7_step) (maxL := 3) (ret := (some .int)) (by decide) rfl ?_
  intro p e s m args below meth c s₁ B hml htab hv
  obtain ⟨rfl, hsz, hE, hP, hK, hD0⟩ := hv
  have hx := B.exec
  have hb := B.bytes
  have hr := B.returns
  have hts := atoms_spec (ws := wsX7_step) B.pre
  have hown : s.vm.findClass RX7 = some m.cls := findClass_of_methodNamed B.named
  have hlocks := B.notSynchronized
  have hout9 : ∀ (pc9 : Nat), ∀ x ∈ c.exceptionTable.toList, covers x pc9 = false := fun _ x hx9 => (htab x hx9).elim
  have hin_RX7 : ∀ w ∈ u_ws RX7 TX7 46, w ∈ wsX7_step := by decide +kernel
  subst hsz
  have hD := hD0.self (sz := s.heap.size)
  generalize hAe : va_A [(h0, .inr (9, [.int 0, .int 0, .int 0, .int 0, .int 0, .int 0, .int 12, .int 0, .int 0, .int 0, .ref a10, .ref a11, .ref a12, .ref a13, .ref a14, .ref a15, .ref a16, .ref a17, .ref a18, .ref a19, .ref a20, .ref a21, .ref a22, .ref a23, .ref a24, .ref a25, .ref a26, .ref a27, .ref a28, .ref a29, .ref a30, .ref a31, .ref a32, .ref a33, .ref a34, .ref a35, .ref a36, .ref a37, .int 0, .int 0, .int 0, .int 0, .int 0, .int 0, .int 0, .ref a45])), (a10, .inl (mC, 984, .inl (fun _ => 0))), (a11, .inl (m11, 984, .inl (fun _ => 0))), (a12, .inl (m12, 41, .inl (fun _ => 0))), (a13, .inl (m13, 4, .inl (fun _ => 0))), (a14, .inl (m14, 6, .inl (fun _ => 0))), (a15, .inl (m15, 8, .inl (fun _ => 0))), (a34, .inl (m34, 10, .inl (fun _ => 0)))] s.heap.size = A at hD hE ⊢
  have hA : ∀ q : Nat, s.heap.size ≤ q → A q := fun q h => by rw [← hAe]; exact Or.inr h
  have hS : va_S A s.heap s.heap [] := va_S.rf
  have hP : va_P (dC, dI) vwCl [(h0, .inr (9, [.int 0, .int 0, .int 0, .int 0, .int 0, .int 0, .int 12, .int 0, .int 0, .int 0, .ref a10, .ref a11, .ref a12, .ref a13, .ref a14, .ref a15, .ref a16, .ref a17, .ref a18, .ref a19, .ref a20, .ref a21, .ref a22, .ref a23, .ref a24, .ref a25, .ref a26, .ref a27, .ref a28, .ref a29, .ref a30, .ref a31, .ref a32, .ref a33, .ref a34, .ref a35, .ref a36, .ref a37, .int 0, .int 0, .int 0, .int 0, .int 0, .int 0, .int 0, .ref a45])), (a10, .inl (mC, 984, .inl (fun _ => 0))), (a11, .inl (m11, 984, .inl (fun _ => 0))), (a12, .inl (m12, 41, .inl (fun _ => 0))), (a13, .inl (m13, 4, .inl (fun _ => 0))), (a14, .inl (m14, 6, .inl (fun _ => 0))), (a15, .inl (m15, 8, .inl (fun _ => 0))), (a34, .inl (m34, 10, .inl (fun _ => 0)))] s.heap := hP
  have hl := lv_entry ([.ref h0, .int p0, .int p1]) (n := 3) (Nat.le_of_ble_eq_true rfl)
  rw [lg_entry_eq]
  generalize (lg_sl ([.ref h0, .int p0, .int p1]) ++ List.replicate (3 - (lg_sl ([.ref h0, .int p0, .int p1])).length) Slot.unset).toArray = ls at hl ⊢
  have hl : lv_has ls 3 [(0, .ref h0), (1, .int p0), (2, .int p1)] := hl
  refine lv_iload_n hx hb dX7_step_0 rfl (lv_at hl 1 rfl) ?_
  have hPc := hP.sub (ws' := []) [] rfl
  have hDc := hD.sub (ws' := []) [] (by decide) rfl
  have hKc := hK.sub (tys' := []) [] rfl
  have hFc := va_free (wc := []) hD hS hA [] rfl
  refine vx_calli (vx_runS (As := [.int p0]) (rest := []) ⟨hx, hb, hml, hown, hts⟩ (k_X7_isLetter l hfl dC dI s.heap.size p0) (va_cwS 1 hts gX7_step_X7_isLetter rfl rfl rfl (by decide +kernel) ⟨Nat.le_of_ble_eq_true rfl, Nat.le_of_ble_eq_true rfl⟩) ⟨fun a U g mk q => by obtain ⟨q0, q1, qE, qP, qK, qD⟩ := q; exact ⟨q0, q1, EV.calling qE, qP, va_K.moved (u := U) (U := U.calling g mk a) (Vm.Alike.refl U.vm) qK, qD⟩, fun U hU hW => ⟨rfl, by rw [hU], EV.to hE hS hU hW (fun q h => hFc q h), by rw [hU]; exact hPc, va_K.moved hW.alike hKc, hDc.weaken (fun _ _ _ _ => trivial)⟩⟩ rfl rfl hl.1 rfl (lv_room (Nat.le_of_ble_eq_true rfl)) dX7_step_1 ⟨(Nat.le_of_ble_eq_true rfl), (Nat.le_of_ble_eq_true rfl)⟩) hS (fun q _ h => hFc q h) hFc (fun q _ h => hFc q h) (fun E9 ce9 q9 u9 t9 H1 locs ht hvm hw hB hz1 hk1 hS hc9 hv9 hcl9 => ?_) (fun r1 u t H1 locs ht hvm hw hB hz1 hk1 hS => ?_)
  · exact hB.elim
  · skip
    obtain ⟨hP1, hK1, hD1⟩ := hB
    rw [ht] at hP1
    have hK1 := va_K.moved hvm.symm hK1
    try dsimp only at hw
    have hP1 : va_P (dC, dI) vwCl [] H1 := hP1
    obtain ⟨hP, hD⟩ := va_join (wr := [(h0, .inr (9, [.int 0, .int 0, .int 0, .int 0, .int 0, .int 0, .int 12, .int 0, .int 0, .int 0, .ref a10, .ref a11, .ref a12, .ref a13, .ref a14, .ref a15, .ref a16, .ref a17, .ref a18, .ref a19, .ref a20, .ref a21, .ref a22, .ref a23, .ref a24, .ref a25, .ref a26, .ref a27, .ref a28, .ref a29, .ref a30, .ref a31, .ref a32, .ref a33, .ref a34, .ref a35, .ref a36, .ref a37, .int 0, .int 0, .int 0, .int 0, .int 0, .int 0, .int 0, .ref a45])), (a10, .inl (mC, 984, .inl (fun _ => 0))), (a11, .inl (m11, 984, .inl (fun _ => 0))), (a12, .inl (m12, 41, .inl (fun _ => 0))), (a13, .inl (m13, 4, .inl (fun _ => 0))), (a14, .inl (m14, 6, .inl (fun _ => 0))), (a15, .inl (m15, 8, .inl (fun _ => 0))), (a34, .inl (m34, 10, .inl (fun _ => 0)))]) hP hD [] [0, 1, 2, 3, 4, 5, 6, 7] rfl rfl (by decide) (by decide) hk1 hFc hP1 hD1
    have hK := (hK.sub (tys' := [(mC, .char), (m11, .int), (m12, .int), (m13, .int), (m14, .int), (m15, .int), (m34, .int)]) [0, 1, 2, 3, 4, 5, 6] rfl).app hK1
    generalize H1 = H at hP hS ⊢
    have hP : va_P (dC, dI) vwCl [(h0, .inr (9, [.int 0, .int 0, .int 0, .int 0, .int 0, .int 0, .int 12, .int 0, .int 0, .int 0, .ref a10, .ref a11, .ref a12, .ref a13, .ref a14, .ref a15, .ref a16, .ref a17, .ref a18, .ref a19, .ref a20, .ref a21, .ref a22, .ref a23, .ref a24, .ref a25, .ref a26, .ref a27, .ref a28, .ref a29, .ref a30, .ref a31, .ref a32, .ref a33, .ref a34, .ref a35, .ref a36, .ref a37, .int 0, .int 0, .int 0, .int 0, .int 0, .int 0, .int 0, .ref a45])), (a10, .inl (mC, 984, .inl (fun _ => 0))), (a11, .inl (m11, 984, .inl (fun _ => 0))), (a12, .inl (m12, 41, .inl (fun _ => 0))), (a13, .inl (m13, 4, .inl (fun _ => 0))), (a14, .inl (m14, 6, .inl (fun _ => 0))), (a15, .inl (m15, 8, .inl (fun _ => 0))), (a34, .inl (m34, 10, .inl (fun _ => 0)))] H := hP
    have hD : va_D A [(h0, .inr (9, [.int 0, .int 0, .int 0, .int 0, .int 0, .int 0, .int 12, .int 0, .int 0, .int 0, .ref a10, .ref a11, .ref a12, .ref a13, .ref a14, .ref a15, .ref a16, .ref a17, .ref a18, .ref a19, .ref a20, .ref a21, .ref a22, .ref a23, .ref a24, .ref a25, .ref a26, .ref a27, .ref a28, .ref a29, .ref a30, .ref a31, .ref a32, .ref a33, .ref a34, .ref a35, .ref a36, .ref a37, .int 0, .int 0, .int 0, .int 0, .int 0, .int 0, .int 0, .ref a45])), (a10, .inl (mC, 984, .inl (fun _ => 0))), (a11, .inl (m11, 984, .inl (fun _ => 0))), (a12, .inl (m12, 41, .inl (fun _ => 0))), (a13, .inl (m13, 4, .inl (fun _ => 0))), (a14, .inl (m14, 6, .inl (fun _ => 0))), (a15, .inl (m15, 8, .inl (fun _ => 0))), (a34, .inl (m34, 10, .inl (fun _ => 0)))] := hD
    have hK : va_K (dC, dI) vwCl [(mC, .char), (m11, .int), (m12, .int), (m13, .int), (m14, .int), (m15, .int), (m34, .int)] s := hK.sub (tys' := [(mC, .char), (m11, .int), (m12, .int), (m13, .int), (m14, .int), (m15, .int), (m34, .int)]) [0, 1, 2, 3, 4, 5, 6] rfl
    obtain rfl : r1 = (letC p0) := hw
    refine lv_if_eq (tgt := 26) hx hb dX7_step_4 (by decide) (fun cz2 => ?_) (fun cz2 => ?_)
    · skip
      refine lv_aload_n hx hb dX7_step_26 rfl (lv_at hl 0 rfl) ?_
      refine lv_iconst (v := 1) hx hb dX7_step_27 (by decide) ?_
      have hPc := hP.sub (ws' := [(h0, .inr (9, [.int 0, .int 0, .int 0, .int 0, .int 0, .int 0, .int 12, .int 0, .int 0, .int 0, .ref a10, .ref a11, .ref a12, .ref a13, .ref a14, .ref a15, .ref a16, .ref a17, .ref a18, .ref a19, .ref a20, .ref a21, .ref a22, .ref a23, .ref a24, .ref a25, .ref a26, .ref a27, .ref a28, .ref a29, .ref a30, .ref a31, .ref a32, .ref a33, .ref a34, .ref a35, .ref a36, .ref a37, .int 0, .int 0, .int 0, .int 0, .int 0, .int 0, .int 0, .ref a45]))]) [0] rfl
      have hDc := hD.sub (ws' := [(h0, .inr (9, [.int 0, .int 0, .int 0, .int 0, .int 0, .int 0, .int 12, .int 0, .int 0, .int 0, .ref a10, .ref a11, .ref a12, .ref a13, .ref a14, .ref a15, .ref a16, .ref a17, .ref a18, .ref a19, .ref a20, .ref a21, .ref a22, .ref a23, .ref a24, .ref a25, .ref a26, .ref a27, .ref a28, .ref a29, .ref a30, .ref a31, .ref a32, .ref a33, .ref a34, .ref a35, .ref a36, .ref a37, .int 0, .int 0, .int 0, .int 0, .int 0, .int 0, .int 0, .ref a45]))]) [0] (by decide) rfl
      have hKc := hK.sub (tys' := []) [] rfl
      have hFc := va_free (wc := [(h0, .inr (9, [.int 0, .int 0, .int 0, .int 0, .int 0, .int 0, .int 12, .int 0, .int 0, .int 0, .ref a10, .ref a11, .ref a12, .ref a13, .ref a14, .ref a15, .ref a16, .ref a17, .ref a18, .ref a19, .ref a20, .ref a21, .ref a22, .ref a23, .ref a24, .ref a25, .ref a26, .ref a27, .ref a28, .ref a29, .ref a30, .ref a31, .ref a32, .ref a33, .ref a34, .ref a35, .ref a36, .ref a37, .int 0, .int 0, .int 0, .int 0, .int 0, .int 0, .int 0, .ref a45]))]) hD hS hA [0] rfl
      refine vx_calli (vx_runV (As := [.int 1]) (rest := []) ⟨hx, hb, hml, hown, hts⟩ (k_X7_fails l hfl dC dI h0 [.int 0, .int 0, .int 0, .int 0, .int 0, .int 0, .int 12, .int 0, .int 0, .int 0, .ref a10, .ref a11, .ref a12, .ref a13, .ref a14, .ref a15, .ref a16, .ref a17, .ref a18, .ref a19, .ref a20, .ref a21, .ref a22, .ref a23, .ref a24, .ref a25, .ref a26, .ref a27, .ref a28, .ref a29, .ref a30, .ref a31, .ref a32, .ref a33, .ref a34, .ref a35, .ref a36, .ref a37, .int 0, .int 0, .int 0, .int 0, .int 0, .int 0, .int 0, .ref a45] rfl H.size 1) (cwV 1 hts gX7_step_X7_fails rfl rfl rfl (by decide +kernel) ⟨Nat.le_of_ble_eq_true rfl, Nat.le_of_ble_eq_true rfl⟩) ⟨fun a U g mk q => by obtain ⟨q0, q1, qE, qP, qK, qD⟩ := q; exact ⟨q0, q1, EV.calling qE, qP, va_K.moved (u := U) (U := U.calling g mk a) (Vm.Alike.refl U.vm) qK, qD⟩, va_recv hKc hPc (ci := 9) (q0 := 0) rfl rfl, fun U hU hW => ⟨rfl, by rw [hU], EV.to hE hS hU hW (fun q h => hFc q h), by rw [hU]; exact hPc, va_K.moved hW.alike hKc, hDc.weaken (fun _ _ _ _ => trivial)⟩⟩ rfl rfl hl.1 rfl (lv_room (Nat.le_of_ble_eq_true rfl)) dX7_step_28 ⟨(Nat.le_of_ble_eq_true rfl), (Nat.le_of_ble_eq_true rfl)⟩) hS (fun q _ h => hFc q h) hFc (fun q _ h => hFc q h) (fun E9 ce9 q9 u9 t9 H1 locs ht hvm hw hB hz1 hk1 hS hc9 hv9 hcl9 => ?_) (fun r3 u t H1 locs ht hvm hw hB hz1 hk1 hS => ?_)
      · exact hB.elim
      · skip
        obtain ⟨hP1, hK1, hD1⟩ := hB
        rw [ht] at hP1
        have hK1 := va_K.moved hvm.symm hK1
        try dsimp only at hw
        have hP1 : va_P (dC, dI) vwCl [(h0, .inr (9, [.int 0, .int 0, .int 0, .int 0, .int 0, .int 0, .int 12, .int 0, .int 0, .int 1, .ref a10, .ref a11, .ref a12, .ref a13, .ref a14, .ref a15, .ref a16, .ref a17, .ref a18, .ref a19, .ref a20, .ref a21, .ref a22, .ref a23, .ref a24, .ref a25, .ref a26, .ref a27, .ref a28, .ref a29, .ref a30, .ref a31, .ref a32, .ref a33, .ref a34, .ref a35, .ref a36, .ref a37, .int 0, .int 0, .int 0, .int 0, .int 0, .int 0, .int 0, .ref a45]))] H1 := hP1
        obtain ⟨hP, hD⟩ := va_join (wr := [(a10, .inl (mC, 984, .inl (fun _ => 0))), (a11, .inl (m11, 984, .inl (fun _ => 0))), (a12, .inl (m12, 41, .inl (fun _ => 0))), (a13, .inl (m13, 4, .inl (fun _ => 0))), (a14, .inl (m14, 6, .inl (fun _ => 0))), (a15, .inl (m15, 8, .inl (fun _ => 0))), (a34, .inl (m34, 10, .inl (fun _ => 0)))]) hP hD [0] [1, 2, 3, 4, 5, 6, 7] rfl rfl (by decide) (by decide) hk1 hFc hP1 hD1
        have hK := (hK.sub (tys' := [(mC, .char), (m11, .int), (m12, .int), (m13, .int), (m14, .int), (m15, .int), (m34, .int)]) [0, 1, 2, 3, 4, 5, 6] rfl).app hK1
        generalize H1 = H at hP hS ⊢
        have hP : va_P (dC, dI) vwCl [(a10, .inl (mC, 984, .inl (fun _ => 0))), (a11, .inl (m11, 984, .inl (fun _ => 0))), (a12, .inl (m12, 41, .inl (fun _ => 0))), (a13, .inl (m13, 4, .inl (fun _ => 0))), (a14, .inl (m14, 6, .inl (fun _ => 0))), (a15, .inl (m15, 8, .inl (fun _ => 0))), (a34, .inl (m34, 10, .inl (fun _ => 0))), (h0, .inr (9, [.int 0, .int 0, .int 0, .int 0, .int 0, .int 0, .int 12, .int 0, .int 0, .int 1, .ref a10, .ref a11, .ref a12, .ref a13, .ref a14, .ref a15, .ref a16, .ref a17, .ref a18, .ref a19, .ref a20, .ref a21, .ref a22, .ref a23, .ref a24, .ref a25, .ref a26, .ref a27, .ref a28, .ref a29, .ref a30, .ref a31, .ref a32, .ref a33, .ref a34, .ref a35, .ref a36, .ref a37, .int 0, .int 0, .int 0, .int 0, .int 0, .int 0, .int 0, .ref a45]))] H := hP
        have hD : va_D A [(a10, .inl (mC, 984, .inl (fun _ => 0))), (a11, .inl (m11, 984, .inl (fun _ => 0))), (a12, .inl (m12, 41, .inl (fun _ => 0))), (a13, .inl (m13, 4, .inl (fun _ => 0))), (a14, .inl (m14, 6, .inl (fun _ => 0))), (a15, .inl (m15, 8, .inl (fun _ => 0))), (a34, .inl (m34, 10, .inl (fun _ => 0))), (h0, .inr (9, [.int 0, .int 0, .int 0, .int 0, .int 0, .int 0, .int 12, .int 0, .int 0, .int 1, .ref a10, .ref a11, .ref a12, .ref a13, .ref a14, .ref a15, .ref a16, .ref a17, .ref a18, .ref a19, .ref a20, .ref a21, .ref a22, .ref a23, .ref a24, .ref a25, .ref a26, .ref a27, .ref a28, .ref a29, .ref a30, .ref a31, .ref a32, .ref a33, .ref a34, .ref a35, .ref a36, .ref a37, .int 0, .int 0, .int 0, .int 0, .int 0, .int 0, .int 0, .ref a45]))] := hD
        have hK : va_K (dC, dI) vwCl [(mC, .char), (m11, .int), (m12, .int), (m13, .int), (m14, .int), (m15, .int), (m34, .int)] s := hK.sub (tys' := [(mC, .char), (m11, .int), (m12, .int), (m13, .int), (m14, .int), (m15, .int), (m34, .int)]) [0, 1, 2, 3, 4, 5, 6] rfl
        obtain rfl : r3 = (0 : Int32) := hw
        refine W.widen (k := 0) (n := 0) (by decide) (by decide) ?_
        refine vx_ret ?_
        have hP9 := hP.sub (ws' := [(h0, .inr (9, [.int 0, .int 0, .int 0, .int 0, .int 0, .int 0, .int 12, .int 0, .int 0, .int 1, .ref a10, .ref a11, .ref a12, .ref a13, .ref a14, .ref a15, .ref a16, .ref a17, .ref a18, .ref a19, .ref a20, .ref a21, .ref a22, .ref a23, .ref a24, .ref a25, .ref a26, .ref a27, .ref a28, .ref a29, .ref a30, .ref a31, .ref a32, .ref a33, .ref a34, .ref a35, .ref a36, .ref a37, .int 0, .int 0, .int 0, .int 0, .int 0, .int 0, .int 0, .ref a45]))]) [7] rfl
        have hD9 := hD.sub (ws' := [(h0, .inr (9, [.int 0, .int 0, .int 0, .int 0, .int 0, .int 0, .int 12, .int 0, .int 0, .int 1, .ref a10, .ref a11, .ref a12, .ref a13, .ref a14, .ref a15, .ref a16, .ref a17, .ref a18, .ref a19, .ref a20, .ref a21, .ref a22, .ref a23, .ref a24, .ref a25, .ref a26, .ref a27, .ref a28, .ref a29, .ref a30, .ref a31, .ref a32, .ref a33, .ref a34, .ref a35, .ref a36, .ref a37, .int 0, .int 0, .int 0, .int 0, .int 0, .int 0, .int 0, .ref a45]))]) [7] (by decide) rfl
        have hK9 := hK.sub (tys' := []) [] rfl
        exact W.iret (v := 0) hx hb hr (fun t ht hW => ⟨⟨0, [.int 0, .int 0, .int 0, .int 0, .int 0, .int 0, .int 12, .int 0, .int 0, .int 1, .ref a10, .ref a11, .ref a12, .ref a13, .ref a14, .ref a15, .ref a16, .ref a17, .ref a18, .ref a19, .ref a20, .ref a21, .ref a22, .ref a23, .ref a24, .ref a25, .ref a26, .ref a27, .ref a28, .ref a29, .ref a30, .ref a31, .ref a32, .ref a33, .ref a34, .ref a35, .ref a36, .ref a37, .int 0, .int 0, .int 0, .int 0, .int 0, .int 0, .int 0, .ref a45], rfl, ⟨by rw [(show stM p0 p1 = 1 from by unfold stM; rw [if_pos cz2])]; rfl, fun z => absurd ((show stM p0 p1 = 1 from by unfold stM; rw [if_pos cz2]).symm.trans z) (by decide)⟩, by rw [ht]; exact hP9, va_K.moved hW.alike hK9, hD9⟩, hS.F ht⟩) hS.2.2 dX7_step_31
    · skip
      refine lv_iload_n hx hb dX7_step_7 rfl (lv_at hl 1 rfl) ?_
      refine lv_bipush (v := 110) hx hb dX7_step_8 (by decide) ?_
      refine lv_icmp_ne (tgt := 32) hx hb dX7_step_10 (by decide) (fun cz4 => ?_) (fun cz4 => ?_)
      · skip
        refine lv_aload_n hx hb dX7_step_32 rfl (lv_at hl 0 rfl) ?_
        refine va_get (D := (dC, dI)) (ci := 9) (v := .int 0) (C := RX7) (T := TX7) (N := 46) hx hb hts hin_RX7 hown hK hP 0 rfl rfl 0 (by decide) (hts (.fieldLink RX7 7 "KatacodeModel" "typed" "I") (by decide +kernel)) (fun _ h9 => h9) rfl dX7_step_33 ?_
        refine lv_bipush (v := 24) hx hb dX7_step_36 (by decide) ?_
        refine lv_icmp_ne (tgt := 47) hx hb dX7_step_38 (by decide) (fun cz5 => ?_) (fun cz5 => ?_)
        · skip
          refine lv_aload_n hx hb dX7_step_47 rfl (lv_at hl 0 rfl) ?_
          refine va_get (D := (dC, dI)) (ci := 9) (v := .ref a10) (C := RX7) (T := TX7) (N := 46) hx hb hts hin_RX7 hown hK hP 0 rfl rfl 10 (by decide) (hts (.fieldLink RX7 40 "KatacodeModel" "letters" "[C") (by decide +kernel)) (fun _ h9 => h9) rfl dX7_step_48 ?_
          refine lv_sipush (v := 960) hx hb dX7_step_51 (by decide) ?_
          refine lv_aload_n hx hb dX7_step_54 rfl (lv_at hl 0 rfl) ?_
          refine va_get (D := (dC, dI)) (ci := 9) (v := .int 0) (C := RX7) (T := TX7) (N := 46) hx hb hts hin_RX7 hown hK hP 0 rfl rfl 0 (by decide) (hts (.fieldLink RX7 7 "KatacodeModel" "typed" "I") (by decide +kernel)) (fun _ h9 => h9) rfl dX7_step_55 ?_
          refine lv_iadd hx hb dX7_step_58 ?_
          refine lv_topi (fun x6 ex6 => ?_)
          obtain rfl : x6 = (960 : Int32) := ex6.trans (by decide)
          refine lv_iload_n hx hb dX7_step_59 rfl (lv_at hl 1 rfl) ?_
          refine va_cast hx hb hK hP hD hS 1 0 rfl rfl (by unfold vp_in; decide) dX7_step_60 (fun H locs hP hD hS => ?_)
          have hP : va_P (dC, dI) vwCl [(h0, .inr (9, [.int 0, .int 0, .int 0, .int 0, .int 0, .int 0, .int 12, .int 0, .int 0, .int 0, .ref a10, .ref a11, .ref a12, .ref a13, .ref a14, .ref a15, .ref a16, .ref a17, .ref a18, .ref a19, .ref a20, .ref a21, .ref a22, .ref a23, .ref a24, .ref a25, .ref a26, .ref a27, .ref a28, .ref a29, .ref a30, .ref a31, .ref a32, .ref a33, .ref a34, .ref a35, .ref a36, .ref a37, .int 0, .int 0, .int 0, .int 0, .int 0, .int 0, .int 0, .ref a45])), (a10, .inl (mC, 984, .inl (upd (fun _ => 0) (960 : Int32).toNatClampNeg (vp_nar .char p0)))), (a11, .inl (m11, 984, .inl (fun _ => 0))), (a12, .inl (m12, 41, .inl (fun _ => 0))), (a13, .inl (m13, 4, .inl (fun _ => 0))), (a14, .inl (m14, 6, .inl (fun _ => 0))), (a15, .inl (m15, 8, .inl (fun _ => 0))), (a34, .inl (m34, 10, .inl (fun _ => 0)))] H := hP
          have hD : va_D A [(h0, .inr (9, [.int 0, .int 0, .int 0, .int 0, .int 0, .int 0, .int 12, .int 0, .int 0, .int 0, .ref a10, .ref a11, .ref a12, .ref a13, .ref a14, .ref a15, .ref a16, .ref a17, .ref a18, .ref a19, .ref a20, .ref a21, .ref a22, .ref a23, .ref a24, .ref a25, .ref a26, .ref a27, .ref a28, .ref a29, .ref a30, .ref a31, .ref a32, .ref a33, .ref a34, .ref a35, .ref a36, .ref a37, .int 0, .int 0, .int 0, .int 0, .int 0, .int 0, .int 0, .ref a45])), (a10, .inl (mC, 984, .inl (upd (fun _ => 0) (960 : Int32).toNatClampNeg (vp_nar .char p0)))), (a11, .inl (m11, 984, .inl (fun _ => 0))), (a12, .inl (m12, 41, .inl (fun _ => 0))), (a13, .inl (m13, 4, .inl (fun _ => 0))), (a14, .inl (m14, 6, .inl (fun _ => 0))), (a15, .inl (m15, 8, .inl (fun _ => 0))), (a34, .inl (m34, 10, .inl (fun _ => 0)))] := hD
          refine lv_aload_n hx hb dX7_step_61 rfl (lv_at hl 0 rfl) ?_
          refine va_get (D := (dC, dI)) (ci := 9) (v := .ref a11) (C := RX7) (T := TX7) (N := 46) hx hb hts hin_RX7 hown hK hP 0 rfl rfl 11 (by decide) (hts (.fieldLink RX7 44 "KatacodeModel" "numbers" "[I") (by decide +kernel)) (fun _ h9 => h9) rfl dX7_step_62 ?_
          refine lv_sipush (v := 960) hx hb dX7_step_65 (by decide) ?_
          refine lv_aload_n hx hb dX7_step_68 rfl (lv_at hl 0 rfl) ?_
          refine va_get (D := (dC, dI)) (ci := 9) (v := .int 0) (C := RX7) (T := TX7) (N := 46) hx hb hts hin_RX7 hown hK hP 0 rfl rfl 0 (by decide) (hts (.fieldLink RX7 7 "KatacodeModel" "typed" "I") (by decide +kernel)) (fun _ h9 => h9) rfl dX7_step_69 ?_
          refine lv_iadd hx hb dX7_step_72 ?_
          refine lv_topi (fun x7 ex7 => ?_)
          obtain rfl : x7 = (960 : Int32) := ex7.trans (by decide)
          refine lv_iload_n hx hb dX7_step_73 rfl (lv_at hl 1 rfl) ?_
          refine lv_bipush (v := 110) hx hb dX7_step_74 (by decide) ?_
          refine lv_icmp_ne (tgt := 83) hx hb dX7_step_76 (by decide) (fun cz8 => ?_) (fun cz8 => ?_)
          · skip
            refine lv_iconst (v := 0) hx hb dX7_step_83 (by decide) ?_
            refine va_iast hx hb hK hP hD hS 2 1 rfl rfl (by unfold vp_in; decide) dX7_step_84 (fun H locs hP hD hS => ?_)
            have hP : va_P (dC, dI) vwCl [(h0, .inr (9, [.int 0, .int 0, .int 0, .int 0, .int 0, .int 0, .int 12, .int 0, .int 0, .int 0, .ref a10, .ref a11, .ref a12, .ref a13, .ref a14, .ref a15, .ref a16, .ref a17, .ref a18, .ref a19, .ref a20, .ref a21, .ref a22, .ref a23, .ref a24, .ref a25, .ref a26, .ref a27, .ref a28, .ref a29, .ref a30, .ref a31, .ref a32, .ref a33, .ref a34, .ref a35, .ref a36, .ref a37, .int 0, .int 0, .int 0, .int 0, .int 0, .int 0, .int 0, .ref a45])), (a10, .inl (mC, 984, .inl (upd (fun _ => 0) (960 : Int32).toNatClampNeg (vp_nar .char p0)))), (a11, .inl (m11, 984, .inl (upd (fun _ => 0) (960 : Int32).toNatClampNeg 0))), (a12, .inl (m12, 41, .inl (fun _ => 0))), (a13, .inl (m13, 4, .inl (fun _ => 0))), (a14, .inl (m14, 6, .inl (fun _ => 0))), (a15, .inl (m15, 8, .inl (fun _ => 0))), (a34, .inl (m34, 10, .inl (fun _ => 0)))] H := hP
            have hD : va_D A [(h0, .inr (9, [.int 0, .int 0, .int 0, .int 0, .int 0, .int 0, .int 12, .int 0, .int 0, .int 0, .ref a10, .ref a11, .ref a12, .ref a13, .ref a14, .ref a15, .ref a16, .ref a17, .ref a18, .ref a19, .ref a20, .ref a21, .ref a22, .ref a23, .ref a24, .ref a25, .ref a26, .ref a27, .ref a28, .ref a29, .ref a30, .ref a31, .ref a32, .ref a33, .ref a34, .ref a35, .ref a36, .ref a37, .int 0, .int 0, .int 0, .int 0, .int 0, .int 0, .int 0, .ref a45])), (a10, .inl (mC, 984, .inl (upd (fun _ => 0) (960 : Int32).toNatClampNeg (vp_nar .char p0)))), (a11, .inl (m11, 984, .inl (upd (fun _ => 0) (960 : Int32).toNatClampNeg 0))), (a12, .inl (m12, 41, .inl (fun _ => 0))), (a13, .inl (m13, 4, .inl (fun _ => 0))), (a14, .inl (m14, 6, .inl (fun _ => 0))), (a15, .inl (m15, 8, .inl (fun _ => 0))), (a34, .inl (m34, 10, .inl (fun _ => 0)))] := hD
            refine lv_aload_n hx hb dX7_step_85 rfl (lv_at hl 0 rfl) ?_
            refine lv_dup hx hb dX7_step_86 rfl ?_
            refine va_get (D := (dC, dI)) (ci := 9) (v := .int 0) (C := RX7) (T := TX7) (N := 46) hx hb hts hin_RX7 hown hK hP 0 rfl rfl 0 (by decide) (hts (.fieldLink RX7 7 "KatacodeModel" "typed" "I") (by decide +kernel)) (fun _ h9 => h9) rfl dX7_step_87 ?_
            refine lv_iconst (v := 1) hx hb dX7_step_90 (by decide) ?_
            refine lv_iadd hx hb dX7_step_91 ?_
            refine lv_topi (fun x9 ex9 => ?_)
            obtain rfl : x9 = (1 : Int32) := ex9.trans (by decide)
            refine va_put (D := (dC, dI)) (ci := 9) (v := .int 1) (ty := .int) (C := RX7) (T := TX7) (N := 46) hx hb hts hin_RX7 tyX7 tyX7_ok nmX7 hown hK hP hD hS 0 rfl rfl 0 (by decide) (hts (.fieldLink RX7 7 "KatacodeModel" "typed" "I") (by decide +kernel)) (fun _ h9 => h9) rfl (by decide +kernel) rfl rfl (Nat.le_of_ble_eq_true rfl) dX7_step_92 (fun H locs hP hD hS => ?_)
            have hP : va_P (dC, dI) vwCl [(h0, .inr (9, [.int 1, .int 0, .int 0, .int 0, .int 0, .int 0, .int 12, .int 0, .int 0, .int 0, .ref a10, .ref a11, .ref a12, .ref a13, .ref a14, .ref a15, .ref a16, .ref a17, .ref a18, .ref a19, .ref a20, .ref a21, .ref a22, .ref a23, .ref a24, .ref a25, .ref a26, .ref a27, .ref a28, .ref a29, .ref a30, .ref a31, .ref a32, .ref a33, .ref a34, .ref a35, .ref a36, .ref a37, .int 0, .int 0, .int 0, .int 0, .int 0, .int 0, .int 0, .ref a45])), (a10, .inl (mC, 984, .inl (upd (fun _ => 0) (960 : Int32).toNatClampNeg (vp_nar .char p0)))), (a11, .inl (m11, 984, .inl (upd (fun _ => 0) (960 : Int32).toNatClampNeg 0))), (a12, .inl (m12, 41, .inl (fun _ => 0))), (a13, .inl (m13, 4, .inl (fun _ => 0))), (a14, .inl (m14, 6, .inl (fun _ => 0))), (a15, .inl (m15, 8, .inl (fun _ => 0))), (a34, .inl (m34, 10, .inl (fun _ => 0)))] H := hP
            have hD : va_D A [(h0, .inr (9, [.int 1, .int 0, .int 0, .int 0, .int 0, .int 0, .int 12, .int 0, .int 0, .int 0, .ref a10, .ref a11, .ref a12, .ref a13, .ref a14, .ref a15, .ref a16, .ref a17, .ref a18, .ref a19, .ref a20, .ref a21, .ref a22, .ref a23, .ref a24, .ref a25, .ref a26, .ref a27, .ref a28, .ref a29, .ref a30, .ref a31, .ref a32, .ref a33, .ref a34, .ref a35, .ref a36, .ref a37, .int 0, .int 0, .int 0, .int 0, .int 0, .int 0, .int 0, .ref a45])), (a10, .inl (mC, 984, .inl (upd (fun _ => 0) (960 : Int32).toNatClampNeg (vp_nar .char p0)))), (a11, .inl (m11, 984, .inl (upd (fun _ => 0) (960 : Int32).toNatClampNeg 0))), (a12, .inl (m12, 41, .inl (fun _ => 0))), (a13, .inl (m13, 4, .inl (fun _ => 0))), (a14, .inl (m14, 6, .inl (fun _ => 0))), (a15, .inl (m15, 8, .inl (fun _ => 0))), (a34, .inl (m34, 10, .inl (fun _ => 0)))] := hD
            refine lv_aload_n hx hb dX7_step_95 rfl (lv_at hl 0 rfl) ?_
            refine va_get (D := (dC, dI)) (ci := 9) (v := .ref a12) (C := RX7) (T := TX7) (N := 46) hx hb hts hin_RX7 hown hK hP 0 rfl rfl 12 (by decide) (hts (.fieldLink RX7 48 "KatacodeModel" "sizes" "[I") (by decide +kernel)) (fun _ h9 => h9) rfl dX7_step_96 ?_
            refine lv_bipush (v := 40) hx hb dX7_step_99 (by decide) ?_
            refine lv_aload_n hx hb dX7_step_101 rfl (lv_at hl 0 rfl) ?_
            refine va_get (D := (dC, dI)) (ci := 9) (v := .int 1) (C := RX7) (T := TX7) (N := 46) hx hb hts hin_RX7 hown hK hP 0 rfl rfl 0 (by decide) (hts (.fieldLink RX7 7 "KatacodeModel" "typed" "I") (by decide +kernel)) (fun _ h9 => h9) rfl dX7_step_102 ?_
            refine va_iast hx hb hK hP hD hS 3 2 rfl rfl (by unfold vp_in; decide) dX7_step_105 (fun H locs hP hD hS => ?_)
            have hP : va_P (dC, dI) vwCl [(h0, .inr (9, [.int 1, .int 0, .int 0, .int 0, .int 0, .int 0, .int 12, .int 0, .int 0, .int 0, .ref a10, .ref a11, .ref a12, .ref a13, .ref a14, .ref a15, .ref a16, .ref a17, .ref a18, .ref a19, .ref a20, .ref a21, .ref a22, .ref a23, .ref a24, .ref a25, .ref a26, .ref a27, .ref a28, .ref a29, .ref a30, .ref a31, .ref a32, .ref a33, .ref a34, .ref a35, .ref a36, .ref a37, .int 0, .int 0, .int 0, .int 0, .int 0, .int 0, .int 0, .ref a45])), (a10, .inl (mC, 984, .inl (upd (fun _ => 0) (960 : Int32).toNatClampNeg (vp_nar .char p0)))), (a11, .inl (m11, 984, .inl (upd (fun _ => 0) (960 : Int32).toNatClampNeg 0))), (a12, .inl (m12, 41, .inl (upd (fun _ => 0) (40 : Int32).toNatClampNeg 1))), (a13, .inl (m13, 4, .inl (fun _ => 0))), (a14, .inl (m14, 6, .inl (fun _ => 0))), (a15, .inl (m15, 8, .inl (fun _ => 0))), (a34, .inl (m34, 10, .inl (fun _ => 0)))] H := hP
            have hD : va_D A [(h0, .inr (9, [.int 1, .int 0, .int 0, .int 0, .int 0, .int 0, .int 12, .int 0, .int 0, .int 0, .ref a10, .ref a11, .ref a12, .ref a13, .ref a14, .ref a15, .ref a16, .ref a17, .ref a18, .ref a19, .ref a20, .ref a21, .ref a22, .ref a23, .ref a24, .ref a25, .ref a26, .ref a27, .ref a28, .ref a29, .ref a30, .ref a31, .ref a32, .ref a33, .ref a34, .ref a35, .ref a36, .ref a37, .int 0, .int 0, .int 0, .int 0, .int 0, .int 0, .int 0, .ref a45])), (a10, .inl (mC, 984, .inl (upd (fun _ => 0) (960 : Int32).toNatClampNeg (vp_nar .char p0)))), (a11, .inl (m11, 984, .inl (upd (fun _ => 0) (960 : Int32).toNatClampNeg 0))), (a12, .inl (m12, 41, .inl (upd (fun _ => 0) (40 : Int32).toNatClampNeg 1))), (a13, .inl (m13, 4, .inl (fun _ => 0))), (a14, .inl (m14, 6, .inl (fun _ => 0))), (a15, .inl (m15, 8, .inl (fun _ => 0))), (a34, .inl (m34, 10, .inl (fun _ => 0)))] := hD
            refine lv_aload_n hx hb dX7_step_106 rfl (lv_at hl 0 rfl) ?_
            refine lv_aload_n hx hb dX7_step_107 rfl (lv_at hl 0 rfl) ?_
            refine va_get (D := (dC, dI)) (ci := 9) (v := .int 1) (C := RX7) (T := TX7) (N := 46) hx hb hts hin_RX7 hown hK hP 0 rfl rfl 0 (by decide) (hts (.fieldLink RX7 7 "KatacodeModel" "typed" "I") (by decide +kernel)) (fun _ h9 => h9) rfl dX7_step_108 ?_
            have hPc := hP.sub (ws' := [(h0, .inr (9, [.int 1, .int 0, .int 0, .int 0, .int 0, .int 0, .int 12, .int 0, .int 0, .int 0, .ref a10, .ref a11, .ref a12, .ref a13, .ref a14, .ref a15, .ref a16, .ref a17, .ref a18, .ref a19, .ref a20, .ref a21, .ref a22, .ref a23, .ref a24, .ref a25, .ref a26, .ref a27, .ref a28, .ref a29, .ref a30, .ref a31, .ref a32, .ref a33, .ref a34, .ref a35, .ref a36, .ref a37, .int 0, .int 0, .int 0, .int 0, .int 0, .int 0, .int 0, .ref a45]))]) [0] rfl
            have hDc := hD.sub (ws' := [(h0, .inr (9, [.int 1, .int 0, .int 0, .int 0, .int 0, .int 0, .int 12, .int 0, .int 0, .int 0, .ref a10, .ref a11, .ref a12, .ref a13, .ref a14, .ref a15, .ref a16, .ref a17, .ref a18, .ref a19, .ref a20, .ref a21, .ref a22, .ref a23, .ref a24, .ref a25, .ref a26, .ref a27, .ref a28, .ref a29, .ref a30, .ref a31, .ref a32, .ref a33, .ref a34, .ref a35, .ref a36, .ref a37, .int 0, .int 0, .int 0, .int 0, .int 0, .int 0, .int 0, .ref a45]))]) [0] (by decide) rfl
            have hKc := hK.sub (tys' := []) [] rfl
            have hFc := va_free (wc := [(h0, .inr (9, [.int 1, .int 0, .int 0, .int 0, .int 0, .int 0, .int 12, .int 0, .int 0, .int 0, .ref a10, .ref a11, .ref a12, .ref a13, .ref a14, .ref a15, .ref a16, .ref a17, .ref a18, .ref a19, .ref a20, .ref a21, .ref a22, .ref a23, .ref a24, .ref a25, .ref a26, .ref a27, .ref a28, .ref a29, .ref a30, .ref a31, .ref a32, .ref a33, .ref a34, .ref a35, .ref a36, .ref a37, .int 0, .int 0, .int 0, .int 0, .int 0, .int 0, .int 0, .ref a45]))]) hD hS hA [0] rfl
            refine vx_calli (vx_runV (As := [.int 1]) (rest := []) ⟨hx, hb, hml, hown, hts⟩ (k_X7_tells l hfl dC dI h0 [.int 1, .int 0, .int 0, .int 0, .int 0, .int 0, .int 12, .int 0, .int 0, .int 0, .ref a10, .ref a11, .ref a12, .ref a13, .ref a14, .ref a15, .ref a16, .ref a17, .ref a18, .ref a19, .ref a20, .ref a21, .ref a22, .ref a23, .ref a24, .ref a25, .ref a26, .ref a27, .ref a28, .ref a29, .ref a30, .ref a31, .ref a32, .ref a33, .ref a34, .ref a35, .ref a36, .ref a37, .int 0, .int 0, .int 0, .int 0, .int 0, .int 0, .int 0, .ref a45] rfl H.size 1) (cwV 1 hts gX7_step_X7_tells rfl rfl rfl (by decide +kernel) ⟨Nat.le_of_ble_eq_true rfl, Nat.le_of_ble_eq_true rfl⟩) ⟨fun a U g mk q => by obtain ⟨q0, q1, qE, qP, qK, qD⟩ := q; exact ⟨q0, q1, EV.calling qE, qP, va_K.moved (u := U) (U := U.calling g mk a) (Vm.Alike.refl U.vm) qK, qD⟩, va_recv hKc hPc (ci := 9) (q0 := 0) rfl rfl, fun U hU hW => ⟨rfl, by rw [hU], EV.to hE hS hU hW (fun q h => hFc q h), by rw [hU]; exact hPc, va_K.moved hW.alike hKc, hDc.weaken (fun _ _ _ _ => trivial)⟩⟩ rfl rfl hl.1 rfl (lv_room (Nat.le_of_ble_eq_true rfl)) dX7_step_111 ⟨(Nat.le_of_ble_eq_true rfl), (Nat.le_of_ble_eq_true rfl)⟩) hS (fun q _ h => hFc q h) hFc (fun q _ h => hFc q h) (fun E9 ce9 q9 u9 t9 H1 locs ht hvm hw hB hz1 hk1 hS hc9 hv9 hcl9 => ?_) (fun r10 u t H1 locs ht hvm hw hB hz1 hk1 hS => ?_)
            · exact hB.elim
            · skip
              obtain ⟨hP1, hK1, hD1⟩ := hB
              rw [ht] at hP1
              have hK1 := va_K.moved hvm.symm hK1
              try dsimp only at hw
              have hP1 : va_P (dC, dI) vwCl [(h0, .inr (9, [.int 1, .int 0, .int 0, .int 0, .int 0, .int 0, .int 12, .int 0, .int 0, .int 0, .ref a10, .ref a11, .ref a12, .ref a13, .ref a14, .ref a15, .ref a16, .ref a17, .ref a18, .ref a19, .ref a20, .ref a21, .ref a22, .ref a23, .ref a24, .ref a25, .ref a26, .ref a27, .ref a28, .ref a29, .ref a30, .ref a31, .ref a32, .ref a33, .ref a34, .ref a35, .ref a36, .ref a37, .int 0, .int 0, .int 0, .int 0, .int 0, .int 0, .int 0, .ref a45]))] H1 := hP1
              obtain ⟨hP, hD⟩ := va_join (wr := [(a10, .inl (mC, 984, .inl (upd (fun _ => 0) (960 : Int32).toNatClampNeg (vp_nar .char p0)))), (a11, .inl (m11, 984, .inl (upd (fun _ => 0) (960 : Int32).toNatClampNeg 0))), (a12, .inl (m12, 41, .inl (upd (fun _ => 0) (40 : Int32).toNatClampNeg 1))), (a13, .inl (m13, 4, .inl (fun _ => 0))), (a14, .inl (m14, 6, .inl (fun _ => 0))), (a15, .inl (m15, 8, .inl (fun _ => 0))), (a34, .inl (m34, 10, .inl (fun _ => 0)))]) hP hD [0] [1, 2, 3, 4, 5, 6, 7] rfl rfl (by decide) (by decide) hk1 hFc hP1 hD1
              have hK := (hK.sub (tys' := [(mC, .char), (m11, .int), (m12, .int), (m13, .int), (m14, .int), (m15, .int), (m34, .int)]) [0, 1, 2, 3, 4, 5, 6] rfl).app hK1
              generalize H1 = H at hP hS ⊢
              have hP : va_P (dC, dI) vwCl [(a10, .inl (mC, 984, .inl (upd (fun _ => 0) (960 : Int32).toNatClampNeg (vp_nar .char p0)))), (a11, .inl (m11, 984, .inl (upd (fun _ => 0) (960 : Int32).toNatClampNeg 0))), (a12, .inl (m12, 41, .inl (upd (fun _ => 0) (40 : Int32).toNatClampNeg 1))), (a13, .inl (m13, 4, .inl (fun _ => 0))), (a14, .inl (m14, 6, .inl (fun _ => 0))), (a15, .inl (m15, 8, .inl (fun _ => 0))), (a34, .inl (m34, 10, .inl (fun _ => 0))), (h0, .inr (9, [.int 1, .int 0, .int 0, .int 0, .int 0, .int 0, .int 12, .int 0, .int 0, .int 0, .ref a10, .ref a11, .ref a12, .ref a13, .ref a14, .ref a15, .ref a16, .ref a17, .ref a18, .ref a19, .ref a20, .ref a21, .ref a22, .ref a23, .ref a24, .ref a25, .ref a26, .ref a27, .ref a28, .ref a29, .ref a30, .ref a31, .ref a32, .ref a33, .ref a34, .ref a35, .ref a36, .ref a37, .int 0, .int 0, .int 0, .int 0, .int 0, .int 0, .int 0, .ref a45]))] H := hP
              have hD : va_D A [(a10, .inl (mC, 984, .inl (upd (fun _ => 0) (960 : Int32).toNatClampNeg (vp_nar .char p0)))), (a11, .inl (m11, 984, .inl (upd (fun _ => 0) (960 : Int32).toNatClampNeg 0))), (a12, .inl (m12, 41, .inl (upd (fun _ => 0) (40 : Int32).toNatClampNeg 1))), (a13, .inl (m13, 4, .inl (fun _ => 0))), (a14, .inl (m14, 6, .inl (fun _ => 0))), (a15, .inl (m15, 8, .inl (fun _ => 0))), (a34, .inl (m34, 10, .inl (fun _ => 0))), (h0, .inr (9, [.int 1, .int 0, .int 0, .int 0, .int 0, .int 0, .int 12, .int 0, .int 0, .int 0, .ref a10, .ref a11, .ref a12, .ref a13, .ref a14, .ref a15, .ref a16, .ref a17, .ref a18, .ref a19, .ref a20, .ref a21, .ref a22, .ref a23, .ref a24, .ref a25, .ref a26, .ref a27, .ref a28, .ref a29, .ref a30, .ref a31, .ref a32, .ref a33, .ref a34, .ref a35, .ref a36, .ref a37, .int 0, .int 0, .int 0, .int 0, .int 0, .int 0, .int 0, .ref a45]))] := hD
              have hK : va_K (dC, dI) vwCl [(mC, .char), (m11, .int), (m12, .int), (m13, .int), (m14, .int), (m15, .int), (m34, .int)] s := hK.sub (tys' := [(mC, .char), (m11, .int), (m12, .int), (m13, .int), (m14, .int), (m15, .int), (m34, .int)]) [0, 1, 2, 3, 4, 5, 6] rfl
              obtain rfl : r10 = 1 := hw
              refine W.widen (k := 0) (n := 0) (by decide) (by decide) ?_
              refine vx_ret ?_
              have hP9 := hP.sub (ws' := [(h0, .inr (9, [.int 1, .int 0, .int 0, .int 0, .int 0, .int 0, .int 12, .int 0, .int 0, .int 0, .ref a10, .ref a11, .ref a12, .ref a13, .ref a14, .ref a15, .ref a16, .ref a17, .ref a18, .ref a19, .ref a20, .ref a21, .ref a22, .ref a23, .ref a24, .ref a25, .ref a26, .ref a27, .ref a28, .ref a29, .ref a30, .ref a31, .ref a32, .ref a33, .ref a34, .ref a35, .ref a36, .ref a37, .int 0, .int 0, .int 0, .int 0, .int 0, .int 0, .int 0, .ref a45]))]) [7] rfl
              have hD9 := hD.sub (ws' := [(h0, .inr (9, [.int 1, .int 0, .int 0, .int 0, .int 0, .int 0, .int 12, .int 0, .int 0, .int 0, .ref a10, .ref a11, .ref a12, .ref a13, .ref a14, .ref a15, .ref a16, .ref a17, .ref a18, .ref a19, .ref a20, .ref a21, .ref a22, .ref a23, .ref a24, .ref a25, .ref a26, .ref a27, .ref a28, .ref a29, .ref a30, .ref a31, .ref a32, .ref a33, .ref a34, .ref a35, .ref a36, .ref a37, .int 0, .int 0, .int 0, .int 0, .int 0, .int 0, .int 0, .ref a45]))]) [7] (by decide) rfl
              have hK9 := hK.sub (tys' := []) [] rfl
              exact W.iret (v := 1) hx hb hr (fun t ht hW => ⟨⟨1, [.int 1, .int 0, .int 0, .int 0, .int 0, .int 0, .int 12, .int 0, .int 0, .int 0, .ref a10, .ref a11, .ref a12, .ref a13, .ref a14, .ref a15, .ref a16, .ref a17, .ref a18, .ref a19, .ref a20, .ref a21, .ref a22, .ref a23, .ref a24, .ref a25, .ref a26, .ref a27, .ref a28, .ref a29, .ref a30, .ref a31, .ref a32, .ref a33, .ref a34, .ref a35, .ref a36, .ref a37, .int 0, .int 0, .int 0, .int 0, .int 0, .int 0, .int 0, .ref a45], rfl, ⟨by rw [(show stM p0 p1 = 0 from by unfold stM; rw [if_neg cz2, if_neg cz4])]; rfl, fun z => rfl⟩, by rw [ht]; exact hP9, va_K.moved hW.alike hK9, hD9⟩, hS.F ht⟩) hS.2.2 dX7_step_114
          · exact (by first | exact absurd cz8 cz4 | exact absurd cz4 cz8 | (simp_all; done))
        · exact absurd cz5 (by decide)
      · skip
        refine lv_iload_n hx hb dX7_step_13 rfl (lv_at hl 2 rfl) ?_
        refine lv_sipush (v := (-999)) hx hb dX7_step_14 (by decide) ?_
        refine lv_sipush (v := 999) hx hb dX7_step_17 (by decide) ?_
        have hPc := hP.sub (ws' := []) [] rfl
        have hDc := hD.sub (ws' := []) [] (by decide) rfl
        have hKc := hK.sub (tys' := []) [] rfl
        have hFc := va_free (wc := []) hD hS hA [] rfl
        refine vx_calli (vx_runS (As := [.int p1, .int (-999), .int 999]) (rest := []) ⟨hx, hb, hml, hown, hts⟩ (k_X7_in l hfl dC dI H.size p1 (-999) 999) (va_cwS 3 hts gX7_step_X7_in rfl rfl rfl (by decide +kernel) ⟨Nat.le_of_ble_eq_true rfl, Nat.le_of_ble_eq_true rfl⟩) ⟨fun a U g mk q => by obtain ⟨q0, q1, qE, qP, qK, qD⟩ := q; exact ⟨q0, q1, EV.calling qE, qP, va_K.moved (u := U) (U := U.calling g mk a) (Vm.Alike.refl U.vm) qK, qD⟩, fun U hU hW => ⟨rfl, by rw [hU], EV.to hE hS hU hW (fun q h => hFc q h), by rw [hU]; exact hPc, va_K.moved hW.alike hKc, hDc.weaken (fun _ _ _ _ => trivial)⟩⟩ rfl rfl hl.1 rfl (lv_room (Nat.le_of_ble_eq_true rfl)) dX7_step_20 ⟨(Nat.le_of_ble_eq_true rfl), (Nat.le_of_ble_eq_true rfl)⟩) hS (fun q _ h => hFc q h) hFc (fun q _ h => hFc q h) (fun E9 ce9 q9 u9 t9 H1 locs ht hvm hw hB hz1 hk1 hS hc9 hv9 hcl9 => ?_) (fun r11 u t H1 locs ht hvm hw hB hz1 hk1 hS => ?_)
        · exact hB.elim
        · skip
          obtain ⟨hP1, hK1, hD1⟩ := hB
          rw [ht] at hP1
          have hK1 := va_K.moved hvm.symm hK1
          try dsimp only at hw
          have hP1 : va_P (dC, dI) vwCl [] H1 := hP1
          obtain ⟨hP, hD⟩ := va_join (wr := [(h0, .inr (9, [.int 0, .int 0, .int 0, .int 0, .int 0, .int 0, .int 12, .int 0, .int 0, .int 0, .ref a10, .ref a11, .ref a12, .ref a13, .ref a14, .ref a15, .ref a16, .ref a17, .ref a18, .ref a19, .ref a20, .ref a21, .ref a22, .ref a23, .ref a24, .ref a25, .ref a26, .ref a27, .ref a28, .ref a29, .ref a30, .ref a31, .ref a32, .ref a33, .ref a34, .ref a35, .ref a36, .ref a37, .int 0, .int 0, .int 0, .int 0, .int 0, .int 0, .int 0, .ref a45])), (a10, .inl (mC, 984, .inl (fun _ => 0))), (a11, .inl (m11, 984, .inl (fun _ => 0))), (a12, .inl (m12, 41, .inl (fun _ => 0))), (a13, .inl (m13, 4, .inl (fun _ => 0))), (a14, .inl (m14, 6, .inl (fun _ => 0))), (a15, .inl (m15, 8, .inl (fun _ => 0))), (a34, .inl (m34, 10, .inl (fun _ => 0)))]) hP hD [] [0, 1, 2, 3, 4, 5, 6, 7] rfl rfl (by decide) (by decide) hk1 hFc hP1 hD1
          have hK := (hK.sub (tys' := [(mC, .char), (m11, .int), (m12, .int), (m13, .int), (m14, .int), (m15, .int), (m34, .int)]) [0, 1, 2, 3, 4, 5, 6] rfl).app hK1
          generalize H1 = H at hP hS ⊢
          have hP : va_P (dC, dI) vwCl [(h0, .inr (9, [.int 0, .int 0, .int 0, .int 0, .int 0, .int 0, .int 12, .int 0, .int 0, .int 0, .ref a10, .ref a11, .ref a12, .ref a13, .ref a14, .ref a15, .ref a16, .ref a17, .ref a18, .ref a19, .ref a20, .ref a21, .ref a22, .ref a23, .ref a24, .ref a25, .ref a26, .ref a27, .ref a28, .ref a29, .ref a30, .ref a31, .ref a32, .ref a33, .ref a34, .ref a35, .ref a36, .ref a37, .int 0, .int 0, .int 0, .int 0, .int 0, .int 0, .int 0, .ref a45])), (a10, .inl (mC, 984, .inl (fun _ => 0))), (a11, .inl (m11, 984, .inl (fun _ => 0))), (a12, .inl (m12, 41, .inl (fun _ => 0))), (a13, .inl (m13, 4, .inl (fun _ => 0))), (a14, .inl (m14, 6, .inl (fun _ => 0))), (a15, .inl (m15, 8, .inl (fun _ => 0))), (a34, .inl (m34, 10, .inl (fun _ => 0)))] H := hP
          have hD : va_D A [(h0, .inr (9, [.int 0, .int 0, .int 0, .int 0, .int 0, .int 0, .int 12, .int 0, .int 0, .int 0, .ref a10, .ref a11, .ref a12, .ref a13, .ref a14, .ref a15, .ref a16, .ref a17, .ref a18, .ref a19, .ref a20, .ref a21, .ref a22, .ref a23, .ref a24, .ref a25, .ref a26, .ref a27, .ref a28, .ref a29, .ref a30, .ref a31, .ref a32, .ref a33, .ref a34, .ref a35, .ref a36, .ref a37, .int 0, .int 0, .int 0, .int 0, .int 0, .int 0, .int 0, .ref a45])), (a10, .inl (mC, 984, .inl (fun _ => 0))), (a11, .inl (m11, 984, .inl (fun _ => 0))), (a12, .inl (m12, 41, .inl (fun _ => 0))), (a13, .inl (m13, 4, .inl (fun _ => 0))), (a14, .inl (m14, 6, .inl (fun _ => 0))), (a15, .inl (m15, 8, .inl (fun _ => 0))), (a34, .inl (m34, 10, .inl (fun _ => 0)))] := hD
          have hK : va_K (dC, dI) vwCl [(mC, .char), (m11, .int), (m12, .int), (m13, .int), (m14, .int), (m15, .int), (m34, .int)] s := hK.sub (tys' := [(mC, .char), (m11, .int), (m12, .int), (m13, .int), (m14, .int), (m15, .int), (m34, .int)]) [0, 1, 2, 3, 4, 5, 6] rfl
          obtain rfl : r11 = (inC p1 (-999) 999) := hw
          refine lv_if_ne (tgt := 32) hx hb dX7_step_23 (by decide) (fun cz12 => ?_) (fun cz12 => ?_)
          · skip
            refine lv_aload_n hx hb dX7_step_32 rfl (lv_at hl 0 rfl) ?_
            refine va_get (D := (dC, dI)) (ci := 9) (v := .int 0) (C := RX7) (T := TX7) (N := 46) hx hb hts hin_RX7 hown hK hP 0 rfl rfl 0 (by decide) (hts (.fieldLink RX7 7 "KatacodeModel" "typed" "I") (by decide +kernel)) (fun _ h9 => h9) rfl dX7_step_33 ?_
            refine lv_bipush (v := 24) hx hb dX7_step_36 (by decide) ?_
            refine lv_icmp_ne (tgt := 47) hx hb dX7_step_38 (by decide) (fun cz13 => ?_) (fun cz13 => ?_)
            · skip
              refine lv_aload_n hx hb dX7_step_47 rfl (lv_at hl 0 rfl) ?_
              refine va_get (D := (dC, dI)) (ci := 9) (v := .ref a10) (C := RX7) (T := TX7) (N := 46) hx hb hts hin_RX7 hown hK hP 0 rfl rfl 10 (by decide) (hts (.fieldLink RX7 40 "KatacodeModel" "letters" "[C") (by decide +kernel)) (fun _ h9 => h9) rfl dX7_step_48 ?_
              refine lv_sipush (v := 960) hx hb dX7_step_51 (by decide) ?_
              refine lv_aload_n hx hb dX7_step_54 rfl (lv_at hl 0 rfl) ?_
              refine va_get (D := (dC, dI)) (ci := 9) (v := .int 0) (C := RX7) (T := TX7) (N := 46) hx hb hts hin_RX7 hown hK hP 0 rfl rfl 0 (by decide) (hts (.fieldLink RX7 7 "KatacodeModel" "typed" "I") (by decide +kernel)) (fun _ h9 => h9) rfl dX7_step_55 ?_
              refine lv_iadd hx hb dX7_step_58 ?_
              refine lv_topi (fun x14 ex14 => ?_)
              obtain rfl : x14 = (960 : Int32) := ex14.trans (by decide)
              refine lv_iload_n hx hb dX7_step_59 rfl (lv_at hl 1 rfl) ?_
              refine va_cast hx hb hK hP hD hS 1 0 rfl rfl (by unfold vp_in; decide) dX7_step_60 (fun H locs hP hD hS => ?_)
              have hP : va_P (dC, dI) vwCl [(h0, .inr (9, [.int 0, .int 0, .int 0, .int 0, .int 0, .int 0, .int 12, .int 0, .int 0, .int 0, .ref a10, .ref a11, .ref a12, .ref a13, .ref a14, .ref a15, .ref a16, .ref a17, .ref a18, .ref a19, .ref a20, .ref a21, .ref a22, .ref a23, .ref a24, .ref a25, .ref a26, .ref a27, .ref a28, .ref a29, .ref a30, .ref a31, .ref a32, .ref a33, .ref a34, .ref a35, .ref a36, .ref a37, .int 0, .int 0, .int 0, .int 0, .int 0, .int 0, .int 0, .ref a45])), (a10, .inl (mC, 984, .inl (upd (fun _ => 0) (960 : Int32).toNatClampNeg (vp_nar .char p0)))), (a11, .inl (m11, 984, .inl (fun _ => 0))), (a12, .inl (m12, 41, .inl (fun _ => 0))), (a13, .inl (m13, 4, .inl (fun _ => 0))), (a14, .inl (m14, 6, .inl (fun _ => 0))), (a15, .inl (m15, 8, .inl (fun _ => 0))), (a34, .inl (m34, 10, .inl (fun _ => 0)))] H := hP
              have hD : va_D A [(h0, .inr (9, [.int 0, .int 0, .int 0, .int 0, .int 0, .int 0, .int 12, .int 0, .int 0, .int 0, .ref a10, .ref a11, .ref a12, .ref a13, .ref a14, .ref a15, .ref a16, .ref a17, .ref a18, .ref a19, .ref a20, .ref a21, .ref a22, .ref a23, .ref a24, .ref a25, .ref a26, .ref a27, .ref a28, .ref a29, .ref a30, .ref a31, .ref a32, .ref a33, .ref a34, .ref a35, .ref a36, .ref a37, .int 0, .int 0, .int 0, .int 0, .int 0, .int 0, .int 0, .ref a45])), (a10, .inl (mC, 984, .inl (upd (fun _ => 0) (960 : Int32).toNatClampNeg (vp_nar .char p0)))), (a11, .inl (m11, 984, .inl (fun _ => 0))), (a12, .inl (m12, 41, .inl (fun _ => 0))), (a13, .inl (m13, 4, .inl (fun _ => 0))), (a14, .inl (m14, 6, .inl (fun _ => 0))), (a15, .inl (m15, 8, .inl (fun _ => 0))), (a34, .inl (m34, 10, .inl (fun _ => 0)))] := hD
              refine lv_aload_n hx hb dX7_step_61 rfl (lv_at hl 0 rfl) ?_
              refine va_get (D := (dC, dI)) (ci := 9) (v := .ref a11) (C := RX7) (T := TX7) (N := 46) hx hb hts hin_RX7 hown hK hP 0 rfl rfl 11 (by decide) (hts (.fieldLink RX7 44 "KatacodeModel" "numbers" "[I") (by decide +kernel)) (fun _ h9 => h9) rfl dX7_step_62 ?_
              refine lv_sipush (v := 960) hx hb dX7_step_65 (by decide) ?_
              refine lv_aload_n hx hb dX7_step_68 rfl (lv_at hl 0 rfl) ?_
              refine va_get (D := (dC, dI)) (ci := 9) (v := .int 0) (C := RX7) (T := TX7) (N := 46) hx hb hts hin_RX7 hown hK hP 0 rfl rfl 0 (by decide) (hts (.fieldLink RX7 7 "KatacodeModel" "typed" "I") (by decide +kernel)) (fun _ h9 => h9) rfl dX7_step_69 ?_
              refine lv_iadd hx hb dX7_step_72 ?_
              refine lv_topi (fun x15 ex15 => ?_)
              obtain rfl : x15 = (960 : Int32) := ex15.trans (by decide)
              refine lv_iload_n hx hb dX7_step_73 rfl (lv_at hl 1 rfl) ?_
              refine lv_bipush (v := 110) hx hb dX7_step_74 (by decide) ?_
              refine lv_icmp_ne (tgt := 83) hx hb dX7_step_76 (by decide) (fun cz16 => ?_) (fun cz16 => ?_)
              · exact (by first | exact absurd cz16 cz4 | exact absurd cz4 cz16 | (simp_all; done))
              · skip
                refine lv_iload_n hx hb dX7_step_79 rfl (lv_at hl 2 rfl) ?_
                refine lv_goto (tgt := 84) hx hb dX7_step_80 (by decide) ?_
                refine va_iast hx hb hK hP hD hS 2 1 rfl rfl (by unfold vp_in; decide) dX7_step_84 (fun H locs hP hD hS => ?_)
                have hP : va_P (dC, dI) vwCl [(h0, .inr (9, [.int 0, .int 0, .int 0, .int 0, .int 0, .int 0, .int 12, .int 0, .int 0, .int 0, .ref a10, .ref a11, .ref a12, .ref a13, .ref a14, .ref a15, .ref a16, .ref a17, .ref a18, .ref a19, .ref a20, .ref a21, .ref a22, .ref a23, .ref a24, .ref a25, .ref a26, .ref a27, .ref a28, .ref a29, .ref a30, .ref a31, .ref a32, .ref a33, .ref a34, .ref a35, .ref a36, .ref a37, .int 0, .int 0, .int 0, .int 0, .int 0, .int 0, .int 0, .ref a45])), (a10, .inl (mC, 984, .inl (upd (fun _ => 0) (960 : Int32).toNatClampNeg (vp_nar .char p0)))), (a11, .inl (m11, 984, .inl (upd (fun _ => 0) (960 : Int32).toNatClampNeg p1))), (a12, .inl (m12, 41, .inl (fun _ => 0))), (a13, .inl (m13, 4, .inl (fun _ => 0))), (a14, .inl (m14, 6, .inl (fun _ => 0))), (a15, .inl (m15, 8, .inl (fun _ => 0))), (a34, .inl (m34, 10, .inl (fun _ => 0)))] H := hP
                have hD : va_D A [(h0, .inr (9, [.int 0, .int 0, .int 0, .int 0, .int 0, .int 0, .int 12, .int 0, .int 0, .int 0, .ref a10, .ref a11, .ref a12, .ref a13, .ref a14, .ref a15, .ref a16, .ref a17, .ref a18, .ref a19, .ref a20, .ref a21, .ref a22, .ref a23, .ref a24, .ref a25, .ref a26, .ref a27, .ref a28, .ref a29, .ref a30, .ref a31, .ref a32, .ref a33, .ref a34, .ref a35, .ref a36, .ref a37, .int 0, .int 0, .int 0, .int 0, .int 0, .int 0, .int 0, .ref a45])), (a10, .inl (mC, 984, .inl (upd (fun _ => 0) (960 : Int32).toNatClampNeg (vp_nar .char p0)))), (a11, .inl (m11, 984, .inl (upd (fun _ => 0) (960 : Int32).toNatClampNeg p1))), (a12, .inl (m12, 41, .inl (fun _ => 0))), (a13, .inl (m13, 4, .inl (fun _ => 0))), (a14, .inl (m14, 6, .inl (fun _ => 0))), (a15, .inl (m15, 8, .inl (fun _ => 0))), (a34, .inl (m34, 10, .inl (fun _ => 0)))] := hD
                refine lv_aload_n hx hb dX7_step_85 rfl (lv_at hl 0 rfl) ?_
                refine lv_dup hx hb dX7_step_86 rfl ?_
                refine va_get (D := (dC, dI)) (ci := 9) (v := .int 0) (C := RX7) (T := TX7) (N := 46) hx hb hts hin_RX7 hown hK hP 0 rfl rfl 0 (by decide) (hts (.fieldLink RX7 7 "KatacodeModel" "typed" "I") (by decide +kernel)) (fun _ h9 => h9) rfl dX7_step_87 ?_
                refine lv_iconst (v := 1) hx hb dX7_step_90 (by decide) ?_
                refine lv_iadd hx hb dX7_step_91 ?_
                refine lv_topi (fun x17 ex17 => ?_)
                obtain rfl : x17 = (1 : Int32) := ex17.trans (by decide)
                refine va_put (D := (dC, dI)) (ci := 9) (v := .int 1) (ty := .int) (C := RX7) (T := TX7) (N := 46) hx hb hts hin_RX7 tyX7 tyX7_ok nmX7 hown hK hP hD hS 0 rfl rfl 0 (by decide) (hts (.fieldLink RX7 7 "KatacodeModel" "typed" "I") (by decide +kernel)) (fun _ h9 => h9) rfl (by decide +kernel) rfl rfl (Nat.le_of_ble_eq_true rfl) dX7_step_92 (fun H locs hP hD hS => ?_)
                have hP : va_P (dC, dI) vwCl [(h0, .inr (9, [.int 1, .int 0, .int 0, .int 0, .int 0, .int 0, .int 12, .int 0, .int 0, .int 0, .ref a10, .ref a11, .ref a12, .ref a13, .ref a14, .ref a15, .ref a16, .ref a17, .ref a18, .ref a19, .ref a20, .ref a21, .ref a22, .ref a23, .ref a24, .ref a25, .ref a26, .ref a27, .ref a28, .ref a29, .ref a30, .ref a31, .ref a32, .ref a33, .ref a34, .ref a35, .ref a36, .ref a37, .int 0, .int 0, .int 0, .int 0, .int 0, .int 0, .int 0, .ref a45])), (a10, .inl (mC, 984, .inl (upd (fun _ => 0) (960 : Int32).toNatClampNeg (vp_nar .char p0)))), (a11, .inl (m11, 984, .inl (upd (fun _ => 0) (960 : Int32).toNatClampNeg p1))), (a12, .inl (m12, 41, .inl (fun _ => 0))), (a13, .inl (m13, 4, .inl (fun _ => 0))), (a14, .inl (m14, 6, .inl (fun _ => 0))), (a15, .inl (m15, 8, .inl (fun _ => 0))), (a34, .inl (m34, 10, .inl (fun _ => 0)))] H := hP
                have hD : va_D A [(h0, .inr (9, [.int 1, .int 0, .int 0, .int 0, .int 0, .int 0, .int 12, .int 0, .int 0, .int 0, .ref a10, .ref a11, .ref a12, .ref a13, .ref a14, .ref a15, .ref a16, .ref a17, .ref a18, .ref a19, .ref a20, .ref a21, .ref a22, .ref a23, .ref a24, .ref a25, .ref a26, .ref a27, .ref a28, .ref a29, .ref a30, .ref a31, .ref a32, .ref a33, .ref a34, .ref a35, .ref a36, .ref a37, .int 0, .int 0, .int 0, .int 0, .int 0, .int 0, .int 0, .ref a45])), (a10, .inl (mC, 984, .inl (upd (fun _ => 0) (960 : Int32).toNatClampNeg (vp_nar .char p0)))), (a11, .inl (m11, 984, .inl (upd (fun _ => 0) (960 : Int32).toNatClampNeg p1))), (a12, .inl (m12, 41, .inl (fun _ => 0))), (a13, .inl (m13, 4, .inl (fun _ => 0))), (a14, .inl (m14, 6, .inl (fun _ => 0))), (a15, .inl (m15, 8, .inl (fun _ => 0))), (a34, .inl (m34, 10, .inl (fun _ => 0)))] := hD
                refine lv_aload_n hx hb dX7_step_95 rfl (lv_at hl 0 rfl) ?_
                refine va_get (D := (dC, dI)) (ci := 9) (v := .ref a12) (C := RX7) (T := TX7) (N := 46) hx hb hts hin_RX7 hown hK hP 0 rfl rfl 12 (by decide) (hts (.fieldLink RX7 48 "KatacodeModel" "sizes" "[I") (by decide +kernel)) (fun _ h9 => h9) rfl dX7_step_96 ?_
                refine lv_bipush (v := 40) hx hb dX7_step_99 (by decide) ?_
                refine lv_aload_n hx hb dX7_step_101 rfl (lv_at hl 0 rfl) ?_
                refine va_get (D := (dC, dI)) (ci := 9) (v := .int 1) (C := RX7) (T := TX7) (N := 46) hx hb hts hin_RX7 hown hK hP 0 rfl rfl 0 (by decide) (hts (.fieldLink RX7 7 "KatacodeModel" "typed" "I") (by decide +kernel)) (fun _ h9 => h9) rfl dX7_step_102 ?_
                refine va_iast hx hb hK hP hD hS 3 2 rfl rfl (by unfold vp_in; decide) dX7_step_105 (fun H locs hP hD hS => ?_)
                have hP : va_P (dC, dI) vwCl [(h0, .inr (9, [.int 1, .int 0, .int 0, .int 0, .int 0, .int 0, .int 12, .int 0, .int 0, .int 0, .ref a10, .ref a11, .ref a12, .ref a13, .ref a14, .ref a15, .ref a16, .ref a17, .ref a18, .ref a19, .ref a20, .ref a21, .ref a22, .ref a23, .ref a24, .ref a25, .ref a26, .ref a27, .ref a28, .ref a29, .ref a30, .ref a31, .ref a32, .ref a33, .ref a34, .ref a35, .ref a36, .ref a37, .int 0, .int 0, .int 0, .int 0, .int 0, .int 0, .int 0, .ref a45])), (a10, .inl (mC, 984, .inl (upd (fun _ => 0) (960 : Int32).toNatClampNeg (vp_nar .char p0)))), (a11, .inl (m11, 984, .inl (upd (fun _ => 0) (960 : Int32).toNatClampNeg p1))), (a12, .inl (m12, 41, .inl (upd (fun _ => 0) (40 : Int32).toNatClampNeg 1))), (a13, .inl (m13, 4, .inl (fun _ => 0))), (a14, .inl (m14, 6, .inl (fun _ => 0))), (a15, .inl (m15, 8, .inl (fun _ => 0))), (a34, .inl (m34, 10, .inl (fun _ => 0)))] H := hP
                have hD : va_D A [(h0, .inr (9, [.int 1, .int 0, .int 0, .int 0, .int 0, .int 0, .int 12, .int 0, .int 0, .int 0, .ref a10, .ref a11, .ref a12, .ref a13, .ref a14, .ref a15, .ref a16, .ref a17, .ref a18, .ref a19, .ref a20, .ref a21, .ref a22, .ref a23, .ref a24, .ref a25, .ref a26, .ref a27, .ref a28, .ref a29, .ref a30, .ref a31, .ref a32, .ref a33, .ref a34, .ref a35, .ref a36, .ref a37, .int 0, .int 0, .int 0, .int 0, .int 0, .int 0, .int 0, .ref a45])), (a10, .inl (mC, 984, .inl (upd (fun _ => 0) (960 : Int32).toNatClampNeg (vp_nar .char p0)))), (a11, .inl (m11, 984, .inl (upd (fun _ => 0) (960 : Int32).toNatClampNeg p1))), (a12, .inl (m12, 41, .inl (upd (fun _ => 0) (40 : Int32).toNatClampNeg 1))), (a13, .inl (m13, 4, .inl (fun _ => 0))), (a14, .inl (m14, 6, .inl (fun _ => 0))), (a15, .inl (m15, 8, .inl (fun _ => 0))), (a34, .inl (m34, 10, .inl (fun _ => 0)))] := hD
                refine lv_aload_n hx hb dX7_step_106 rfl (lv_at hl 0 rfl) ?_
                refine lv_aload_n hx hb dX7_step_107 rfl (lv_at hl 0 rfl) ?_
                refine va_get (D := (dC, dI)) (ci := 9) (v := .int 1) (C := RX7) (T := TX7) (N := 46) hx hb hts hin_RX7 hown hK hP 0 rfl rfl 0 (by decide) (hts (.fieldLink RX7 7 "KatacodeModel" "typed" "I") (by decide +kernel)) (fun _ h9 => h9) rfl dX7_step_108 ?_
                have hPc := hP.sub (ws' := [(h0, .inr (9, [.int 1, .int 0, .int 0, .int 0, .int 0, .int 0, .int 12, .int 0, .int 0, .int 0, .ref a10, .ref a11, .ref a12, .ref a13, .ref a14, .ref a15, .ref a16, .ref a17, .ref a18, .ref a19, .ref a20, .ref a21, .ref a22, .ref a23, .ref a24, .ref a25, .ref a26, .ref a27, .ref a28, .ref a29, .ref a30, .ref a31, .ref a32, .ref a33, .ref a34, .ref a35, .ref a36, .ref a37, .int 0, .int 0, .int 0, .int 0, .int 0, .int 0, .int 0, .ref a45]))]) [0] rfl
                have hDc := hD.sub (ws' := [(h0, .inr (9, [.int 1, .int 0, .int 0, .int 0, .int 0, .int 0, .int 12, .int 0, .int 0, .int 0, .ref a10, .ref a11, .ref a12, .ref a13, .ref a14, .ref a15, .ref a16, .ref a17, .ref a18, .ref a19, .ref a20, .ref a21, .ref a22, .ref a23, .ref a24, .ref a25, .ref a26, .ref a27, .ref a28, .ref a29, .ref a30, .ref a31, .ref a32, .ref a33, .ref a34, .ref a35, .ref a36, .ref a37, .int 0, .int 0, .int 0, .int 0, .int 0, .int 0, .int 0, .ref a45]))]) [0] (by decide) rfl
                have hKc := hK.sub (tys' := []) [] rfl
                have hFc := va_free (wc := [(h0, .inr (9, [.int 1, .int 0, .int 0, .int 0, .int 0, .int 0, .int 12, .int 0, .int 0, .int 0, .ref a10, .ref a11, .ref a12, .ref a13, .ref a14, .ref a15, .ref a16, .ref a17, .ref a18, .ref a19, .ref a20, .ref a21, .ref a22, .ref a23, .ref a24, .ref a25, .ref a26, .ref a27, .ref a28, .ref a29, .ref a30, .ref a31, .ref a32, .ref a33, .ref a34, .ref a35, .ref a36, .ref a37, .int 0, .int 0, .int 0, .int 0, .int 0, .int 0, .int 0, .ref a45]))]) hD hS hA [0] rfl
                refine vx_calli (vx_runV (As := [.int 1]) (rest := []) ⟨hx, hb, hml, hown, hts⟩ (k_X7_tells l hfl dC dI h0 [.int 1, .int 0, .int 0, .int 0, .int 0, .int 0, .int 12, .int 0, .int 0, .int 0, .ref a10, .ref a11, .ref a12, .ref a13, .ref a14, .ref a15, .ref a16, .ref a17, .ref a18, .ref a19, .ref a20, .ref a21, .ref a22, .ref a23, .ref a24, .ref a25, .ref a26, .ref a27, .ref a28, .ref a29, .ref a30, .ref a31, .ref a32, .ref a33, .ref a34, .ref a35, .ref a36, .ref a37, .int 0, .int 0, .int 0, .int 0, .int 0, .int 0, .int 0, .ref a45] rfl H.size 1) (cwV 1 hts gX7_step_X7_tells rfl rfl rfl (by decide +kernel) ⟨Nat.le_of_ble_eq_true rfl, Nat.le_of_ble_eq_true rfl⟩) ⟨fun a U g mk q => by obtain ⟨q0, q1, qE, qP, qK, qD⟩ := q; exact ⟨q0, q1, EV.calling qE, qP, va_K.moved (u := U) (U := U.calling g mk a) (Vm.Alike.refl U.vm) qK, qD⟩, va_recv hKc hPc (ci := 9) (q0 := 0) rfl rfl, fun U hU hW => ⟨rfl, by rw [hU], EV.to hE hS hU hW (fun q h => hFc q h), by rw [hU]; exact hPc, va_K.moved hW.alike hKc, hDc.weaken (fun _ _ _ _ => trivial)⟩⟩ rfl rfl hl.1 rfl (lv_room (Nat.le_of_ble_eq_true rfl)) dX7_step_111 ⟨(Nat.le_of_ble_eq_true rfl), (Nat.le_of_ble_eq_true rfl)⟩) hS (fun q _ h => hFc q h) hFc (fun q _ h => hFc q h) (fun E9 ce9 q9 u9 t9 H1 locs ht hvm hw hB hz1 hk1 hS hc9 hv9 hcl9 => ?_) (fun r18 u t H1 locs ht hvm hw hB hz1 hk1 hS => ?_)
                · exact hB.elim
                · skip
                  obtain ⟨hP1, hK1, hD1⟩ := hB
                  rw [ht] at hP1
                  have hK1 := va_K.moved hvm.symm hK1
                  try dsimp only at hw
                  have hP1 : va_P (dC, dI) vwCl [(h0, .inr (9, [.int 1, .int 0, .int 0, .int 0, .int 0, .int 0, .int 12, .int 0, .int 0, .int 0, .ref a10, .ref a11, .ref a12, .ref a13, .ref a14, .ref a15, .ref a16, .ref a17, .ref a18, .ref a19, .ref a20, .ref a21, .ref a22, .ref a23, .ref a24, .ref a25, .ref a26, .ref a27, .ref a28, .ref a29, .ref a30, .ref a31, .ref a32, .ref a33, .ref a34, .ref a35, .ref a36, .ref a37, .int 0, .int 0, .int 0, .int 0, .int 0, .int 0, .int 0, .ref a45]))] H1 := hP1
                  obtain ⟨hP, hD⟩ := va_join (wr := [(a10, .inl (mC, 984, .inl (upd (fun _ => 0) (960 : Int32).toNatClampNeg (vp_nar .char p0)))), (a11, .inl (m11, 984, .inl (upd (fun _ => 0) (960 : Int32).toNatClampNeg p1))), (a12, .inl (m12, 41, .inl (upd (fun _ => 0) (40 : Int32).toNatClampNeg 1))), (a13, .inl (m13, 4, .inl (fun _ => 0))), (a14, .inl (m14, 6, .inl (fun _ => 0))), (a15, .inl (m15, 8, .inl (fun _ => 0))), (a34, .inl (m34, 10, .inl (fun _ => 0)))]) hP hD [0] [1, 2, 3, 4, 5, 6, 7] rfl rfl (by decide) (by decide) hk1 hFc hP1 hD1
                  have hK := (hK.sub (tys' := [(mC, .char), (m11, .int), (m12, .int), (m13, .int), (m14, .int), (m15, .int), (m34, .int)]) [0, 1, 2, 3, 4, 5, 6] rfl).app hK1
                  generalize H1 = H at hP hS ⊢
                  have hP : va_P (dC, dI) vwCl [(a10, .inl (mC, 984, .inl (upd (fun _ => 0) (960 : Int32).toNatClampNeg (vp_nar .char p0)))), (a11, .inl (m11, 984, .inl (upd (fun _ => 0) (960 : Int32).toNatClampNeg p1))), (a12, .inl (m12, 41, .inl (upd (fun _ => 0) (40 : Int32).toNatClampNeg 1))), (a13, .inl (m13, 4, .inl (fun _ => 0))), (a14, .inl (m14, 6, .inl (fun _ => 0))), (a15, .inl (m15, 8, .inl (fun _ => 0))), (a34, .inl (m34, 10, .inl (fun _ => 0))), (h0, .inr (9, [.int 1, .int 0, .int 0, .int 0, .int 0, .int 0, .int 12, .int 0, .int 0, .int 0, .ref a10, .ref a11, .ref a12, .ref a13, .ref a14, .ref a15, .ref a16, .ref a17, .ref a18, .ref a19, .ref a20, .ref a21, .ref a22, .ref a23, .ref a24, .ref a25, .ref a26, .ref a27, .ref a28, .ref a29, .ref a30, .ref a31, .ref a32, .ref a33, .ref a34, .ref a35, .ref a36, .ref a37, .int 0, .int 0, .int 0, .int 0, .int 0, .int 0, .int 0, .ref a45]))] H := hP
                  have hD : va_D A [(a10, .inl (mC, 984, .inl (upd (fun _ => 0) (960 : Int32).toNatClampNeg (vp_nar .char p0)))), (a11, .inl (m11, 984, .inl (upd (fun _ => 0) (960 : Int32).toNatClampNeg p1))), (a12, .inl (m12, 41, .inl (upd (fun _ => 0) (40 : Int32).toNatClampNeg 1))), (a13, .inl (m13, 4, .inl (fun _ => 0))), (a14, .inl (m14, 6, .inl (fun _ => 0))), (a15, .inl (m15, 8, .inl (fun _ => 0))), (a34, .inl (m34, 10, .inl (fun _ => 0))), (h0, .inr (9, [.int 1, .int 0, .int 0, .int 0, .int 0, .int 0, .int 12, .int 0, .int 0, .int 0, .ref a10, .ref a11, .ref a12, .ref a13, .ref a14, .ref a15, .ref a16, .ref a17, .ref a18, .ref a19, .ref a20, .ref a21, .ref a22, .ref a23, .ref a24, .ref a25, .ref a26, .ref a27, .ref a28, .ref a29, .ref a30, .ref a31, .ref a32, .ref a33, .ref a34, .ref a35, .ref a36, .ref a37, .int 0, .int 0, .int 0, .int 0, .int 0, .int 0, .int 0, .ref a45]))] := hD
                  have hK : va_K (dC, dI) vwCl [(mC, .char), (m11, .int), (m12, .int), (m13, .int), (m14, .int), (m15, .int), (m34, .int)] s := hK.sub (tys' := [(mC, .char), (m11, .int), (m12, .int), (m13, .int), (m14, .int), (m15, .int), (m34, .int)]) [0, 1, 2, 3, 4, 5, 6] rfl
                  obtain rfl : r18 = 1 := hw
                  refine W.widen (k := 0) (n := 0) (by decide) (by decide) ?_
                  refine vx_ret ?_
                  have hP9 := hP.sub (ws' := [(h0, .inr (9, [.int 1, .int 0, .int 0, .int 0, .int 0, .int 0, .int 12, .int 0, .int 0, .int 0, .ref a10, .ref a11, .ref a12, .ref a13, .ref a14, .ref a15, .ref a16, .ref a17, .ref a18, .ref a19, .ref a20, .ref a21, .ref a22, .ref a23, .ref a24, .ref a25, .ref a26, .ref a27, .ref a28, .ref a29, .ref a30, .ref a31, .ref a32, .ref a33, .ref a34, .ref a35, .ref a36, .ref a37, .int 0, .int 0, .int 0, .int 0, .int 0, .int 0, .int 0, .ref a45]))]) [7] rfl
                  have hD9 := hD.sub (ws' := [(h0, .inr (9, [.int 1, .int 0, .int 0, .int 0, .int 0, .int 0, .int 12, .int 0, .int 0, .int 0, .ref a10, .ref a11, .ref a12, .ref a13, .ref a14, .ref a15, .ref a16, .ref a17, .ref a18, .ref a19, .ref a20, .ref a21, .ref a22, .ref a23, .ref a24, .ref a25, .ref a26, .ref a27, .ref a28, .ref a29, .ref a30, .ref a31, .ref a32, .ref a33, .ref a34, .ref a35, .ref a36, .ref a37, .int 0, .int 0, .int 0, .int 0, .int 0, .int 0, .int 0, .ref a45]))]) [7] (by decide) rfl
                  have hK9 := hK.sub (tys' := []) [] rfl
                  exact W.iret (v := 1) hx hb hr (fun t ht hW => ⟨⟨1, [.int 1, .int 0, .int 0, .int 0, .int 0, .int 0, .int 12, .int 0, .int 0, .int 0, .ref a10, .ref a11, .ref a12, .ref a13, .ref a14, .ref a15, .ref a16, .ref a17, .ref a18, .ref a19, .ref a20, .ref a21, .ref a22, .ref a23, .ref a24, .ref a25, .ref a26, .ref a27, .ref a28, .ref a29, .ref a30, .ref a31, .ref a32, .ref a33, .ref a34, .ref a35, .ref a36, .ref a37, .int 0, .int 0, .int 0, .int 0, .int 0, .int 0, .int 0, .ref a45], rfl, ⟨by rw [(show stM p0 p1 = 0 from by unfold stM; rw [if_neg cz2, if_pos cz4, if_neg cz12])]; rfl, fun z => rfl⟩, by rw [ht]; exact hP9, va_K.moved hW.alike hK9, hD9⟩, hS.F ht⟩) hS.2.2 dX7_step_114
            · exact absurd cz13 (by decide)
          · skip
            refine lv_aload_n hx hb dX7_step_26 rfl (lv_at hl 0 rfl) ?_
            refine lv_iconst (v := 1) hx hb dX7_step_27 (by decide) ?_
            have hPc := hP.sub (ws' := [(h0, .inr (9, [.int 0, .int 0, .int 0, .int 0, .int 0, .int 0, .int 12, .int 0, .int 0, .int 0, .ref a10, .ref a11, .ref a12, .ref a13, .ref a14, .ref a15, .ref a16, .ref a17, .ref a18, .ref a19, .ref a20, .ref a21, .ref a22, .ref a23, .ref a24, .ref a25, .ref a26, .ref a27, .ref a28, .ref a29, .ref a30, .ref a31, .ref a32, .ref a33, .ref a34, .ref a35, .ref a36, .ref a37, .int 0, .int 0, .int 0, .int 0, .int 0, .int 0, .int 0, .ref a45]))]) [0] rfl
            have hDc := hD.sub (ws' := [(h0, .inr (9, [.int 0, .int 0, .int 0, .int 0, .int 0, .int 0, .int 12, .int 0, .int 0, .int 0, .ref a10, .ref a11, .ref a12, .ref a13, .ref a14, .ref a15, .ref a16, .ref a17, .ref a18, .ref a19, .ref a20, .ref a21, .ref a22, .ref a23, .ref a24, .ref a25, .ref a26, .ref a27, .ref a28, .ref a29, .ref a30, .ref a31, .ref a32, .ref a33, .ref a34, .ref a35, .ref a36, .ref a37, .int 0, .int 0, .int 0, .int 0, .int 0, .int 0, .int 0, .ref a45]))]) [0] (by decide) rfl
            have hKc := hK.sub (tys' := []) [] rfl
            have hFc := va_free (wc := [(h0, .inr (9, [.int 0, .int 0, .int 0, .int 0, .int 0, .int 0, .int 12, .int 0, .int 0, .int 0, .ref a10, .ref a11, .ref a12, .ref a13, .ref a14, .ref a15, .ref a16, .ref a17, .ref a18, .ref a19, .ref a20, .ref a21, .ref a22, .ref a23, .ref a24, .ref a25, .ref a26, .ref a27, .ref a28, .ref a29, .ref a30, .ref a31, .ref a32, .ref a33, .ref a34, .ref a35, .ref a36, .ref a37, .int 0, .int 0, .int 0, .int 0, .int 0, .int 0, .int 0, .ref a45]))]) hD hS hA [0] rfl
            refine vx_calli (vx_runV (As := [.int 1]) (rest := []) ⟨hx, hb, hml, hown, hts⟩ (k_X7_fails l hfl dC dI h0 [.int 0, .int 0, .int 0, .int 0, .int 0, .int 0, .int 12, .int 0, .int 0, .int 0, .ref a10, .ref a11, .ref a12, .ref a13, .ref a14, .ref a15, .ref a16, .ref a17, .ref a18, .ref a19, .ref a20, .ref a21, .ref a22, .ref a23, .ref a24, .ref a25, .ref a26, .ref a27, .ref a28, .ref a29, .ref a30, .ref a31, .ref a32, .ref a33, .ref a34, .ref a35, .ref a36, .ref a37, .int 0, .int 0, .int 0, .int 0, .int 0, .int 0, .int 0, .ref a45] rfl H.size 1) (cwV 1 hts gX7_step_X7_fails rfl rfl rfl (by decide +kernel) ⟨Nat.le_of_ble_eq_true rfl, Nat.le_of_ble_eq_true rfl⟩) ⟨fun a U g mk q => by obtain ⟨q0, q1, qE, qP, qK, qD⟩ := q; exact ⟨q0, q1, EV.calling qE, qP, va_K.moved (u := U) (U := U.calling g mk a) (Vm.Alike.refl U.vm) qK, qD⟩, va_recv hKc hPc (ci := 9) (q0 := 0) rfl rfl, fun U hU hW => ⟨rfl, by rw [hU], EV.to hE hS hU hW (fun q h => hFc q h), by rw [hU]; exact hPc, va_K.moved hW.alike hKc, hDc.weaken (fun _ _ _ _ => trivial)⟩⟩ rfl rfl hl.1 rfl (lv_room (Nat.le_of_ble_eq_true rfl)) dX7_step_28 ⟨(Nat.le_of_ble_eq_true rfl), (Nat.le_of_ble_eq_true rfl)⟩) hS (fun q _ h => hFc q h) hFc (fun q _ h => hFc q h) (fun E9 ce9 q9 u9 t9 H1 locs ht hvm hw hB hz1 hk1 hS hc9 hv9 hcl9 => ?_) (fun r19 u t H1 locs ht hvm hw hB hz1 hk1 hS => ?_)
            · exact hB.elim
            · skip
              obtain ⟨hP1, hK1, hD1⟩ := hB
              rw [ht] at hP1
              have hK1 := va_K.moved hvm.symm hK1
              try dsimp only at hw
              have hP1 : va_P (dC, dI) vwCl [(h0, .inr (9, [.int 0, .int 0, .int 0, .int 0, .int 0, .int 0, .int 12, .int 0, .int 0, .int 1, .ref a10, .ref a11, .ref a12, .ref a13, .ref a14, .ref a15, .ref a16, .ref a17, .ref a18, .ref a19, .ref a20, .ref a21, .ref a22, .ref a23, .ref a24, .ref a25, .ref a26, .ref a27, .ref a28, .ref a29, .ref a30, .ref a31, .ref a32, .ref a33, .ref a34, .ref a35, .ref a36, .ref a37, .int 0, .int 0, .int 0, .int 0, .int 0, .int 0, .int 0, .ref a45]))] H1 := hP1
              obtain ⟨hP, hD⟩ := va_join (wr := [(a10, .inl (mC, 984, .inl (fun _ => 0))), (a11, .inl (m11, 984, .inl (fun _ => 0))), (a12, .inl (m12, 41, .inl (fun _ => 0))), (a13, .inl (m13, 4, .inl (fun _ => 0))), (a14, .inl (m14, 6, .inl (fun _ => 0))), (a15, .inl (m15, 8, .inl (fun _ => 0))), (a34, .inl (m34, 10, .inl (fun _ => 0)))]) hP hD [0] [1, 2, 3, 4, 5, 6, 7] rfl rfl (by decide) (by decide) hk1 hFc hP1 hD1
              have hK := (hK.sub (tys' := [(mC, .char), (m11, .int), (m12, .int), (m13, .int), (m14, .int), (m15, .int), (m34, .int)]) [0, 1, 2, 3, 4, 5, 6] rfl).app hK1
              generalize H1 = H at hP hS ⊢
              have hP : va_P (dC, dI) vwCl [(a10, .inl (mC, 984, .inl (fun _ => 0))), (a11, .inl (m11, 984, .inl (fun _ => 0))), (a12, .inl (m12, 41, .inl (fun _ => 0))), (a13, .inl (m13, 4, .inl (fun _ => 0))), (a14, .inl (m14, 6, .inl (fun _ => 0))), (a15, .inl (m15, 8, .inl (fun _ => 0))), (a34, .inl (m34, 10, .inl (fun _ => 0))), (h0, .inr (9, [.int 0, .int 0, .int 0, .int 0, .int 0, .int 0, .int 12, .int 0, .int 0, .int 1, .ref a10, .ref a11, .ref a12, .ref a13, .ref a14, .ref a15, .ref a16, .ref a17, .ref a18, .ref a19, .ref a20, .ref a21, .ref a22, .ref a23, .ref a24, .ref a25, .ref a26, .ref a27, .ref a28, .ref a29, .ref a30, .ref a31, .ref a32, .ref a33, .ref a34, .ref a35, .ref a36, .ref a37, .int 0, .int 0, .int 0, .int 0, .int 0, .int 0, .int 0, .ref a45]))] H := hP
              have hD : va_D A [(a10, .inl (mC, 984, .inl (fun _ => 0))), (a11, .inl (m11, 984, .inl (fun _ => 0))), (a12, .inl (m12, 41, .inl (fun _ => 0))), (a13, .inl (m13, 4, .inl (fun _ => 0))), (a14, .inl (m14, 6, .inl (fun _ => 0))), (a15, .inl (m15, 8, .inl (fun _ => 0))), (a34, .inl (m34, 10, .inl (fun _ => 0))), (h0, .inr (9, [.int 0, .int 0, .int 0, .int 0, .int 0, .int 0, .int 12, .int 0, .int 0, .int 1, .ref a10, .ref a11, .ref a12, .ref a13, .ref a14, .ref a15, .ref a16, .ref a17, .ref a18, .ref a19, .ref a20, .ref a21, .ref a22, .ref a23, .ref a24, .ref a25, .ref a26, .ref a27, .ref a28, .ref a29, .ref a30, .ref a31, .ref a32, .ref a33, .ref a34, .ref a35, .ref a36, .ref a37, .int 0, .int 0, .int 0, .int 0, .int 0, .int 0, .int 0, .ref a45]))] := hD
              have hK : va_K (dC, dI) vwCl [(mC, .char), (m11, .int), (m12, .int), (m13, .int), (m14, .int), (m15, .int), (m34, .int)] s := hK.sub (tys' := [(mC, .char), (m11, .int), (m12, .int), (m13, .int), (m14, .int), (m15, .int), (m34, .int)]) [0, 1, 2, 3, 4, 5, 6] rfl
              obtain rfl : r19 = (0 : Int32) := hw
              refine W.widen (k := 0) (n := 0) (by decide) (by decide) ?_
              refine vx_ret ?_
              have hP9 := hP.sub (ws' := [(h0, .inr (9, [.int 0, .int 0, .int 0, .int 0, .int 0, .int 0, .int 12, .int 0, .int 0, .int 1, .ref a10, .ref a11, .ref a12, .ref a13, .ref a14, .ref a15, .ref a16, .ref a17, .ref a18, .ref a19, .ref a20, .ref a21, .ref a22, .ref a23, .ref a24, .ref a25, .ref a26, .ref a27, .ref a28, .ref a29, .ref a30, .ref a31, .ref a32, .ref a33, .ref a34, .ref a35, .ref a36, .ref a37, .int 0, .int 0, .int 0, .int 0, .int 0, .int 0, .int 0, .ref a45]))]) [7] rfl
              have hD9 := hD.sub (ws' := [(h0, .inr (9, [.int 0, .int 0, .int 0, .int 0, .int 0, .int 0, .int 12, .int 0, .int 0, .int 1, .ref a10, .ref a11, .ref a12, .ref a13, .ref a14, .ref a15, .ref a16, .ref a17, .ref a18, .ref a19, .ref a20, .ref a21, .ref a22, .ref a23, .ref a24, .ref a25, .ref a26, .ref a27, .ref a28, .ref a29, .ref a30, .ref a31, .ref a32, .ref a33, .ref a34, .ref a35, .ref a36, .ref a37, .int 0, .int 0, .int 0, .int 0, .int 0, .int 0, .int 0, .ref a45]))]) [7] (by decide) rfl
              have hK9 := hK.sub (tys' := []) [] rfl
              exact W.iret (v := 0) hx hb hr (fun t ht hW => ⟨⟨0, [.int 0, .int 0, .int 0, .int 0, .int 0, .int 0, .int 12, .int 0, .int 0, .int 1, .ref a10, .ref a11, .ref a12, .ref a13, .ref a14, .ref a15, .ref a16, .ref a17, .ref a18, .ref a19, .ref a20, .ref a21, .ref a22, .ref a23, .ref a24, .ref a25, .ref a26, .ref a27, .ref a28, .ref a29, .ref a30, .ref a31, .ref a32, .ref a33, .ref a34, .ref a35, .ref a36, .ref a37, .int 0, .int 0, .int 0, .int 0, .int 0, .int 0, .int 0, .ref a45], rfl, ⟨by rw [(show stM p0 p1 = 1 from by unfold stM; rw [if_neg cz2, if_pos cz4, if_pos cz12])]; rfl, fun z => absurd ((show stM p0 p1 = 1 from by unfold stM; rw [if_neg cz2, if_pos cz4, if_pos cz12]).symm.trans z) (by decide)⟩, by rw [ht]; exact hP9, va_K.moved hW.alike hK9, hD9⟩, hS.F ht⟩) hS.2.2 dX7_step_31