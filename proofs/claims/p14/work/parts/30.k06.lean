set_option maxHeartbeats 4000000 in
set_option maxRecDepth 100000 in
theorem k_X7_thrown (l : Launch) (hfl : l.stackTraces = false) (Z : ZT) (hZ : wD Z) (X M O : SS) (r : Int32) (hf : f_X7_thrown M = some (r)) (sz : Nat) : vx_Met l yX7_thrown ws_X7_thrown rm_X7_thrown (va_Pc [.ref (Z.2.2 26 0)] (cP Z (X, M, O) sz)) (cQi Z (X, M, O) (.inl r) sz) (cX Z (X, M, O) (.inl r : Int32 ⊕ String) sz) 0 0 (wA Z sz) := by
  refine vx_ofW (cc := cX7_thrown) (maxL := 1) (ret := (some .int)) (by decide) rfl ?_
  intro p e s m args below meth c s₁ B hml htab hv
  obtain ⟨hargs, hsz, hE, hP, hK⟩ := hv
  have hx := B.exec
  have hb := B.bytes
  have hr := B.returns
  have hts0 := atoms_spec (ws := ws_X7_thrown) B.pre
  have hts : ∀ w ∈ lw_all, w.before args s = true := fun w h => hts0 w (List.mem_cons_of_mem _ h)
  have hown : s.vm.findClass RX7 = some m.cls := findClass_of_methodNamed B.named
  have hlocks := B.notSynchronized
  have hout9 : ∀ (pc9 : Nat), ∀ x ∈ c.exceptionTable.toList, covers x pc9 = false := fun _ x hx9 => (htab x hx9).elim
  subst hsz
  have hS : va_S (wA Z s.heap.size) s.heap s.heap [] := va_S.rf
  have hl := lv_entry ([.ref (Z.2.2 26 0)]) (n := 1) (Nat.le_of_ble_eq_true rfl)
  have hen : entryFrame m args 1 = entryFrame m ([.ref (Z.2.2 26 0)] : List Value).toArray 1 := by rw [hargs]
  rw [hen, lg_entry_eq]
  generalize (lg_sl ([.ref (Z.2.2 26 0)]) ++ List.replicate (1 - (lg_sl ([.ref (Z.2.2 26 0)])).length) Slot.unset).toArray = ls at hl ⊢
  have hl : lv_has ls 1 [(0, .ref (Z.2.2 26 0))] := hl
  have hk := hf
  unfold f_X7_thrown at hk
  refine lv_aload_n hx hb dX7_thrown_0 rfl (lv_at hl 0 rfl) ?_
  refine gf_RX7_37 hx hb hts hown hK hP (by decide) dX7_thrown_1 ?_
  cases (show some _ = some _ from hk)
  exact we_i hx hb hr hlocks hP rfl hS dX7_thrown_4 (by decide) (by decide)
set_option maxHeartbeats 4000000 in
set_option maxRecDepth 100000 in
theorem k_X7_in (l : Launch) (hfl : l.stackTraces = false) (Z : ZT) (hZ : wD Z) (X M O : SS) (p0 : Int32) (p1 : Int32) (p2 : Int32) (r : Int32) (hf : f_X7_in p0 p1 p2 = some (r)) (sz : Nat) : vx_Met l yX7_in ws_X7_in rm_X7_in (va_Pc [.int p0, .int p1, .int p2] (cP Z (X, M, O) sz)) (cQi Z (X, M, O) (.inl r) sz) (cX Z (X, M, O) (.inl r : Int32 ⊕ String) sz) 0 0 (wA Z sz) := by
  refine vx_ofW (cc := cX7_in) (maxL := 3) (ret := (some .boolean)) (by decide) rfl ?_
  intro p e s m args below meth c s₁ B hml htab hv
  obtain ⟨hargs, hsz, hE, hP, hK⟩ := hv
  have hx := B.exec
  have hb := B.bytes
  have hr := B.returns
  have hts0 := atoms_spec (ws := ws_X7_in) B.pre
  have hts : ∀ w ∈ lw_all, w.before args s = true := fun w h => hts0 w (List.mem_cons_of_mem _ h)
  have hown : s.vm.findClass RX7 = some m.cls := findClass_of_methodNamed B.named
  have hlocks := B.notSynchronized
  have hout9 : ∀ (pc9 : Nat), ∀ x ∈ c.exceptionTable.toList, covers x pc9 = false := fun _ x hx9 => (htab x hx9).elim
  subst hsz
  have hS : va_S (wA Z s.heap.size) s.heap s.heap [] := va_S.rf
  have hl := lv_entry ([.int p0, .int p1, .int p2]) (n := 3) (Nat.le_of_ble_eq_true rfl)
  have hen : entryFrame m args 3 = entryFrame m ([.int p0, .int p1, .int p2] : List Value).toArray 3 := by rw [hargs]
  rw [hen, lg_entry_eq]
  generalize (lg_sl ([.int p0, .int p1, .int p2]) ++ List.replicate (3 - (lg_sl ([.int p0, .int p1, .int p2])).length) Slot.unset).toArray = ls at hl ⊢
  have hl : lv_has ls 3 [(0, .int p0), (1, .int p1), (2, .int p2)] := hl
  have hk := hf
  unfold f_X7_in at hk
  refine lv_iload_n hx hb dX7_in_0 rfl (lv_at hl 0 rfl) ?_
  refine lv_iload_n hx hb dX7_in_1 rfl (lv_at hl 1 rfl) ?_
  refine lv_icmp_lt (tgt := 14) hx hb dX7_in_2 (by decide) (fun cz1 => ?_) (fun cz1 => ?_)
  · have hk := it_t cz1 hk
    refine lv_iconst (v := (0 : Int32)) hx hb dX7_in_14 (by decide) ?_
    cases (show some _ = some _ from hk)
    exact we_z hx hb hr hlocks (show okz (0 : Int32) by unfold okz; decide).1 hP rfl hS dX7_in_15 (by decide) (by decide)
  · have hk := it_f cz1 hk
    refine lv_iload_n hx hb dX7_in_5 rfl (lv_at hl 0 rfl) ?_
    refine lv_iload_n hx hb dX7_in_6 rfl (lv_at hl 2 rfl) ?_
    refine lv_icmp_gt (tgt := 14) hx hb dX7_in_7 (by decide) (fun cz2 => ?_) (fun cz2 => ?_)
    · have hk := it_t cz2 hk
      refine lv_iconst (v := (0 : Int32)) hx hb dX7_in_14 (by decide) ?_
      cases (show some _ = some _ from hk)
      exact we_z hx hb hr hlocks (show okz (0 : Int32) by unfold okz; decide).1 hP rfl hS dX7_in_15 (by decide) (by decide)
    · have hk := it_f cz2 hk
      refine lv_iconst (v := (1 : Int32)) hx hb dX7_in_10 (by decide) ?_
      refine lv_goto (tgt := 15) hx hb dX7_in_11 (by decide) ?_
      cases (show some _ = some _ from hk)
      exact we_z hx hb hr hlocks (show okz (1 : Int32) by unfold okz; decide).1 hP rfl hS dX7_in_15 (by decide) (by decide)
set_option maxHeartbeats 4000000 in
set_option maxRecDepth 100000 in
theorem k_X7_fails (l : Launch) (hfl : l.stackTraces = false) (Z : ZT) (hZ : wD Z) (X M O : SS) (p0 : Int32) (Mz : SS) (r : Int32) (hf : f_X7_fails M p0 = some (Mz, r)) (sz : Nat) : vx_Met l yX7_fails ws_X7_fails rm_X7_fails (va_Pc [.ref (Z.2.2 26 0), .int p0] (cP Z (X, M, O) sz)) (cQi Z (X, Mz, O) (.inl r) sz) (cX Z (X, Mz, O) (.inl r : Int32 ⊕ String) sz) 0 0 (wA Z sz) := by
  refine vx_ofW (cc := cX7_fails) (maxL := 2) (ret := (some .int)) (by decide) rfl ?_
  intro p e s m args below meth c s₁ B hml htab hv
  obtain ⟨hargs, hsz, hE, hP, hK⟩ := hv
  have hx := B.exec
  have hb := B.bytes
  have hr := B.returns
  have hts0 := atoms_spec (ws := ws_X7_fails) B.pre
  have hts : ∀ w ∈ lw_all, w.before args s = true := fun w h => hts0 w (List.mem_cons_of_mem _ h)
  have hown : s.vm.findClass RX7 = some m.cls := findClass_of_methodNamed B.named
  have hlocks := B.notSynchronized
  have hout9 : ∀ (pc9 : Nat), ∀ x ∈ c.exceptionTable.toList, covers x pc9 = false := fun _ x hx9 => (htab x hx9).elim
  subst hsz
  have hS : va_S (wA Z s.heap.size) s.heap s.heap [] := va_S.rf
  have hl := lv_entry ([.ref (Z.2.2 26 0), .int p0]) (n := 2) (Nat.le_of_ble_eq_true rfl)
  have hen : entryFrame m args 2 = entryFrame m ([.ref (Z.2.2 26 0), .int p0] : List Value).toArray 2 := by rw [hargs]
  rw [hen, lg_entry_eq]
  generalize (lg_sl ([.ref (Z.2.2 26 0), .int p0]) ++ List.replicate (2 - (lg_sl ([.ref (Z.2.2 26 0), .int p0])).length) Slot.unset).toArray = ls at hl ⊢
  have hl : lv_has ls 2 [(0, .ref (Z.2.2 26 0)), (1, .int p0)] := hl
  have hk := hf
  unfold f_X7_fails at hk
  refine lv_aload_n hx hb dX7_fails_0 rfl (lv_at hl 0 rfl) ?_
  refine lv_iload_n hx hb dX7_fails_1 rfl (lv_at hl 1 rfl) ?_
  obtain ⟨M1, eM1, hk⟩ := lq_s hk
  refine pf_RX7_37 hx hb hts hown hZ hK hP hS (by decide) dX7_fails_2 (fun H locs hP hS => ?_)
  rw [← eM1] at hP
  refine lv_iconst (v := (0 : Int32)) hx hb dX7_fails_5 (by decide) ?_
  cases (show some _ = some _ from hk)
  exact we_i hx hb hr hlocks hP rfl hS dX7_fails_6 (by decide) (by decide)
set_option maxHeartbeats 4000000 in
set_option maxRecDepth 100000 in
theorem k_X7_tells (l : Launch) (hfl : l.stackTraces = false) (Z : ZT) (hZ : wD Z) (X M O : SS) (p0 : Int32) (Mz : SS) (r : Int32) (hf : f_X7_tells M p0 = some (Mz, r)) (sz : Nat) : vx_Met l yX7_tells ws_X7_tells rm_X7_tells (va_Pc [.ref (Z.2.2 26 0), .int p0] (cP Z (X, M, O) sz)) (cQi Z (X, Mz, O) (.inl r) sz) (cX Z (X, Mz, O) (.inl r : Int32 ⊕ String) sz) 0 0 (wA Z sz) := by
  refine vx_ofW (cc := cX7_tells) (maxL := 2) (ret := (some .int)) (by decide) rfl ?_
  intro p e s m args below meth c s₁ B hml htab hv
  obtain ⟨hargs, hsz, hE, hP, hK⟩ := hv
  have hx := B.exec
  have hb := B.bytes
  have hr := B.returns
  have hts0 := atoms_spec (ws := ws_X7_tells) B.pre
  have hts : ∀ w ∈ lw_all, w.before args s = true := fun w h => hts0 w (List.mem_cons_of_mem _ h)
  have hown : s.vm.findClass RX7 = some m.cls := findClass_of_methodNamed B.named
  have hlocks := B.notSynchronized
  have hout9 : ∀ (pc9 : Nat), ∀ x ∈ c.exceptionTable.toList, covers x pc9 = false := fun _ x hx9 => (htab x hx9).elim
  subst hsz
  have hS : va_S (wA Z s.heap.size) s.heap s.heap [] := va_S.rf
  have hl := lv_entry ([.ref (Z.2.2 26 0), .int p0]) (n := 2) (Nat.le_of_ble_eq_true rfl)
  have hen : entryFrame m args 2 = entryFrame m ([.ref (Z.2.2 26 0), .int p0] : List Value).toArray 2 := by rw [hargs]
  rw [hen, lg_entry_eq]
  generalize (lg_sl ([.ref (Z.2.2 26 0), .int p0]) ++ List.replicate (2 - (lg_sl ([.ref (Z.2.2 26 0), .int p0])).length) Slot.unset).toArray = ls at hl ⊢
  have hl : lv_has ls 2 [(0, .ref (Z.2.2 26 0)), (1, .int p0)] := hl
  have hk := hf
  unfold f_X7_tells at hk
  refine lv_aload_n hx hb dX7_tells_0 rfl (lv_at hl 0 rfl) ?_
  refine lv_iconst (v := (0 : Int32)) hx hb dX7_tells_1 (by decide) ?_
  obtain ⟨M1, eM1, hk⟩ := lq_s hk
  refine pf_RX7_37 hx hb hts hown hZ hK hP hS (by decide) dX7_tells_2 (fun H locs hP hS => ?_)
  rw [← eM1] at hP
  refine lv_iload_n hx hb dX7_tells_5 rfl (lv_at hl 1 rfl) ?_
  cases (show some _ = some _ from hk)
  exact we_i hx hb hr hlocks hP rfl hS dX7_tells_6 (by decide) (by decide)
set_option maxHeartbeats 4000000 in
set_option maxRecDepth 100000 in
theorem k_X7_isOneOf (l : Launch) (hfl : l.stackTraces = false) (Z : ZT) (hZ : wD Z) (X M O : SS) (p0 : Int32) (p1 : Int32) (p2 : Int32) (p3 : Int32) (p4 : Int32) (r : Int32) (hf : f_X7_isOneOf p0 p1 p2 p3 p4 = some (r)) (sz : Nat) : vx_Met l yX7_isOneOf ws_X7_isOneOf rm_X7_isOneOf (va_Pc [.int p0, .int p1, .int p2, .int p3, .int p4] (cP Z (X, M, O) sz)) (cQi Z (X, M, O) (.inl r) sz) (cX Z (X, M, O) (.inl r : Int32 ⊕ String) sz) 0 0 (wA Z sz) := by
  refine vx_ofW (cc := cX7_isOneOf) (maxL := 5) (ret := (some .boolean)) (by decide) rfl ?_
  intro p e s m args below meth c s₁ B hml htab hv
  obtain ⟨hargs, hsz, hE, hP, hK⟩ := hv
  have hx := B.exec
  have hb := B.bytes
  have hr := B.returns
  have hts0 := atoms_spec (ws := ws_X7_isOneOf) B.pre
  have hts : ∀ w ∈ lw_all, w.before args s = true := fun w h => hts0 w (List.mem_cons_of_mem _ h)
  have hown : s.vm.findClass RX7 = some m.cls := findClass_of_methodNamed B.named
  have hlocks := B.notSynchronized
  have hout9 : ∀ (pc9 : Nat), ∀ x ∈ c.exceptionTable.toList, covers x pc9 = false := fun _ x hx9 => (htab x hx9).elim
  subst hsz
  have hS : va_S (wA Z s.heap.size) s.heap s.heap [] := va_S.rf
  have hl := lv_entry ([.int p0, .int p1, .int p2, .int p3, .int p4]) (n := 5) (Nat.le_of_ble_eq_true rfl)
  have hen : entryFrame m args 5 = entryFrame m ([.int p0, .int p1, .int p2, .int p3, .int p4] : List Value).toArray 5 := by rw [hargs]
  rw [hen, lg_entry_eq]
  generalize (lg_sl ([.int p0, .int p1, .int p2, .int p3, .int p4]) ++ List.replicate (5 - (lg_sl ([.int p0, .int p1, .int p2, .int p3, .int p4])).length) Slot.unset).toArray = ls at hl ⊢
  have hl : lv_has ls 5 [(0, .int p0), (1, .int p1), (2, .int p2), (3, .int p3), (4, .int p4)] := hl
  have hk := hf
  unfold f_X7_isOneOf at hk
  refine lv_iload_n hx hb dX7_isOneOf_0 rfl (lv_at hl 0 rfl) ?_
  refine lv_iload_n hx hb dX7_isOneOf_1 rfl (lv_at hl 1 rfl) ?_
  refine lv_icmp_eq (tgt := 21) hx hb dX7_isOneOf_2 (by decide) (fun cz1 => ?_) (fun cz1 => ?_)
  · have hk := it_t cz1 hk
    refine lv_iconst (v := (1 : Int32)) hx hb dX7_isOneOf_21 (by decide) ?_
    refine lv_goto (tgt := 26) hx hb dX7_isOneOf_22 (by decide) ?_
    cases (show some _ = some _ from hk)
    exact we_z hx hb hr hlocks (show okz (1 : Int32) by unfold okz; decide).1 hP rfl hS dX7_isOneOf_26 (by decide) (by decide)
  · have hk := it_f cz1 hk
    refine lv_iload_n hx hb dX7_isOneOf_5 rfl (lv_at hl 0 rfl) ?_
    refine lv_iload_n hx hb dX7_isOneOf_6 rfl (lv_at hl 2 rfl) ?_
    refine lv_icmp_eq (tgt := 21) hx hb dX7_isOneOf_7 (by decide) (fun cz2 => ?_) (fun cz2 => ?_)
    · have hk := it_t cz2 hk
      refine lv_iconst (v := (1 : Int32)) hx hb dX7_isOneOf_21 (by decide) ?_
      refine lv_goto (tgt := 26) hx hb dX7_isOneOf_22 (by decide) ?_
      cases (show some _ = some _ from hk)
      exact we_z hx hb hr hlocks (show okz (1 : Int32) by unfold okz; decide).1 hP rfl hS dX7_isOneOf_26 (by decide) (by decide)
    · have hk := it_f cz2 hk
      refine lv_iload_n hx hb dX7_isOneOf_10 rfl (lv_at hl 0 rfl) ?_
      refine lv_iload_n hx hb dX7_isOneOf_11 rfl (lv_at hl 3 rfl) ?_
      refine lv_icmp_eq (tgt := 21) hx hb dX7_isOneOf_12 (by decide) (fun cz3 => ?_) (fun cz3 => ?_)
      · have hk := it_t cz3 hk
        refine lv_iconst (v := (1 : Int32)) hx hb dX7_isOneOf_21 (by decide) ?_
        refine lv_goto (tgt := 26) hx hb dX7_isOneOf_22 (by decide) ?_
        cases (show some _ = some _ from hk)
        exact we_z hx hb hr hlocks (show okz (1 : Int32) by unfold okz; decide).1 hP rfl hS dX7_isOneOf_26 (by decide) (by decide)
      · have hk := it_f cz3 hk
        refine lv_iload_n hx hb dX7_isOneOf_15 rfl (lv_at hl 0 rfl) ?_
        refine lv_iload hx hb dX7_isOneOf_16 (lv_at hl 4 rfl) ?_
        refine lv_icmp_ne (tgt := 25) hx hb dX7_isOneOf_18 (by decide) (fun cz4 => ?_) (fun cz4 => ?_)
        · have hk := it_f cz4 hk
          refine lv_iconst (v := (0 : Int32)) hx hb dX7_isOneOf_25 (by decide) ?_
          cases (show some _ = some _ from hk)
          exact we_z hx hb hr hlocks (show okz (0 : Int32) by unfold okz; decide).1 hP rfl hS dX7_isOneOf_26 (by decide) (by decide)
        · have hk := it_t cz4 hk
          refine lv_iconst (v := (1 : Int32)) hx hb dX7_isOneOf_21 (by decide) ?_
          refine lv_goto (tgt := 26) hx hb dX7_isOneOf_22 (by decide) ?_
          cases (show some _ = some _ from hk)
          exact we_z hx hb hr hlocks (show okz (1 : Int32) by unfold okz; decide).1 hP rfl hS dX7_isOneOf_26 (by decide) (by decide)
set_option maxHeartbeats 4000000 in
set_option maxRecDepth 100000 in
theorem k_X7_isLetter (l : Launch) (hfl : l.stackTraces = false) (Z : ZT) (hZ : wD Z) (X M O : SS) (p0 : Int32) (r : Int32) (hf : f_X7_isLetter p0 = some (r)) (sz : Nat) : vx_Met l yX7_isLetter ws_X7_isLetter rm_X7_isLetter (va_Pc [.int p0] (cP Z (X, M, O) sz)) (cQi Z (X, M, O) (.inl r) sz) (cX Z (X, M, O) (.inl r : Int32 ⊕ String) sz) 0 0 (wA Z sz) := by
  refine vx_ofW (cc := cX7_isLetter) (maxL := 1) (ret := (some .boolean)) (by decide) rfl ?_
  intro p e s m args below meth c s₁ B hml htab hv
  obtain ⟨hargs, hsz, hE, hP, hK⟩ := hv
  have hx := B.exec
  have hb := B.bytes
  have hr := B.returns
  have hts0 := atoms_spec (ws := ws_X7_isLetter) B.pre
  have hts : ∀ w ∈ lw_all, w.before args s = true := fun w h => hts0 w (List.mem_cons_of_mem _ h)
  have hown : s.vm.findClass RX7 = some m.cls := findClass_of_methodNamed B.named
  have hlocks := B.notSynchronized
  have hout9 : ∀ (pc9 : Nat), ∀ x ∈ c.exceptionTable.toList, covers x pc9 = false := fun _ x hx9 => (htab x hx9).elim
  subst hsz
  have hS : va_S (wA Z s.heap.size) s.heap s.heap [] := va_S.rf
  have hl := lv_entry ([.int p0]) (n := 1) (Nat.le_of_ble_eq_true rfl)
  have hen : entryFrame m args 1 = entryFrame m ([.int p0] : List Value).toArray 1 := by rw [hargs]
  rw [hen, lg_entry_eq]
  generalize (lg_sl ([.int p0]) ++ List.replicate (1 - (lg_sl ([.int p0])).length) Slot.unset).toArray = ls at hl ⊢
  have hl : lv_has ls 1 [(0, .int p0)] := hl
  have hk := hf
  unfold f_X7_isLetter at hk
  refine lv_iload_n hx hb dX7_isLetter_0 rfl (lv_at hl 0 rfl) ?_
  refine lv_bipush (v := (110 : Int32)) hx hb dX7_isLetter_1 (by decide) ?_
  refine lv_bipush (v := (105 : Int32)) hx hb dX7_isLetter_3 (by decide) ?_
  refine lv_bipush (v := (43 : Int32)) hx hb dX7_isLetter_5 (by decide) ?_
  refine lv_bipush (v := (45 : Int32)) hx hb dX7_isLetter_7 (by decide) ?_
  obtain ⟨v1, hf2, hk⟩ := b0_s hk
  refine wc_iS0 (rest := []) (As := [.int p0, .int (110 : Int32), .int (105 : Int32), .int (43 : Int32), .int (45 : Int32)]) ⟨hx, hb, hml, hown, hts⟩ (fun sz => k_X7_isOneOf l hfl Z hZ X M O p0 (110 : Int32) (105 : Int32) (43 : Int32) (45 : Int32) v1 hf2 sz) (cw_RX7_153 (args := args) (s := s) hts (Nat.le_of_ble_eq_true rfl) (Nat.le_of_ble_eq_true rfl)) hE hP hK hS  rfl hl.1 rfl (Nat.le_of_ble_eq_true rfl) dX7_isLetter_9 ⟨Nat.le_of_ble_eq_true rfl, Nat.le_of_ble_eq_true rfl⟩ (fun H locs hP hS => ?_)
  refine lv_if_ne (tgt := 45) hx hb dX7_isLetter_12 (by decide) (fun cz3 => ?_) (fun cz3 => ?_)
  · have hk := it_f cz3 hk
    refine lv_iconst (v := (1 : Int32)) hx hb dX7_isLetter_45 (by decide) ?_
    refine lv_goto (tgt := 50) hx hb dX7_isLetter_46 (by decide) ?_
    cases (show some _ = some _ from hk)
    exact we_z hx hb hr hlocks (show okz (1 : Int32) by unfold okz; decide).1 hP rfl hS dX7_isLetter_50 (by decide) (by decide)
  · have hk := it_t cz3 hk
    refine lv_iload_n hx hb dX7_isLetter_15 rfl (lv_at hl 0 rfl) ?_
    refine lv_bipush (v := (42 : Int32)) hx hb dX7_isLetter_16 (by decide) ?_
    refine lv_bipush (v := (37 : Int32)) hx hb dX7_isLetter_18 (by decide) ?_
    refine lv_bipush (v := (100 : Int32)) hx hb dX7_isLetter_20 (by decide) ?_
    refine lv_bipush (v := (115 : Int32)) hx hb dX7_isLetter_22 (by decide) ?_
    obtain ⟨v4, hf5, hk⟩ := b0_s hk
    refine wc_iS0 (rest := []) (As := [.int p0, .int (42 : Int32), .int (37 : Int32), .int (100 : Int32), .int (115 : Int32)]) ⟨hx, hb, hml, hown, hts⟩ (fun sz => k_X7_isOneOf l hfl Z hZ X M O p0 (42 : Int32) (37 : Int32) (100 : Int32) (115 : Int32) v4 hf5 sz) (cw_RX7_153 (args := args) (s := s) hts (Nat.le_of_ble_eq_true rfl) (Nat.le_of_ble_eq_true rfl)) hE hP hK hS  rfl hl.1 rfl (Nat.le_of_ble_eq_true rfl) dX7_isLetter_24 ⟨Nat.le_of_ble_eq_true rfl, Nat.le_of_ble_eq_true rfl⟩ (fun H locs hP hS => ?_)
    refine lv_if_ne (tgt := 45) hx hb dX7_isLetter_27 (by decide) (fun cz6 => ?_) (fun cz6 => ?_)
    · have hk := it_f cz6 hk
      refine lv_iconst (v := (1 : Int32)) hx hb dX7_isLetter_45 (by decide) ?_
      refine lv_goto (tgt := 50) hx hb dX7_isLetter_46 (by decide) ?_
      cases (show some _ = some _ from hk)
      exact we_z hx hb hr hlocks (show okz (1 : Int32) by unfold okz; decide).1 hP rfl hS dX7_isLetter_50 (by decide) (by decide)
    · have hk := it_t cz6 hk
      refine lv_iload_n hx hb dX7_isLetter_30 rfl (lv_at hl 0 rfl) ?_
      refine lv_bipush (v := (112 : Int32)) hx hb dX7_isLetter_31 (by decide) ?_
      refine lv_bipush (v := (111 : Int32)) hx hb dX7_isLetter_33 (by decide) ?_
      refine lv_bipush (v := (91 : Int32)) hx hb dX7_isLetter_35 (by decide) ?_
      refine lv_bipush (v := (93 : Int32)) hx hb dX7_isLetter_37 (by decide) ?_
      obtain ⟨v7, hf8, hk⟩ := b0_s hk
      refine wc_iS0 (rest := []) (As := [.int p0, .int (112 : Int32), .int (111 : Int32), .int (91 : Int32), .int (93 : Int32)]) ⟨hx, hb, hml, hown, hts⟩ (fun sz => k_X7_isOneOf l hfl Z hZ X M O p0 (112 : Int32) (111 : Int32) (91 : Int32) (93 : Int32) v7 hf8 sz) (cw_RX7_153 (args := args) (s := s) hts (Nat.le_of_ble_eq_true rfl) (Nat.le_of_ble_eq_true rfl)) hE hP hK hS  rfl hl.1 rfl (Nat.le_of_ble_eq_true rfl) dX7_isLetter_39 ⟨Nat.le_of_ble_eq_true rfl, Nat.le_of_ble_eq_true rfl⟩ (fun H locs hP hS => ?_)
      refine lv_if_eq (tgt := 49) hx hb dX7_isLetter_42 (by decide) (fun cz9 => ?_) (fun cz9 => ?_)
      · have hk := it_t cz9 hk
        refine lv_iconst (v := (0 : Int32)) hx hb dX7_isLetter_49 (by decide) ?_
        cases (show some _ = some _ from hk)
        exact we_z hx hb hr hlocks (show okz (0 : Int32) by unfold okz; decide).1 hP rfl hS dX7_isLetter_50 (by decide) (by decide)
      · have hk := it_f cz9 hk
        refine lv_iconst (v := (1 : Int32)) hx hb dX7_isLetter_45 (by decide) ?_
        refine lv_goto (tgt := 50) hx hb dX7_isLetter_46 (by decide) ?_
        cases (show some _ = some _ from hk)
        exact we_z hx hb hr hlocks (show okz (1 : Int32) by unfold okz; decide).1 hP rfl hS dX7_isLetter_50 (by decide) (by decide)
set_option maxHeartbeats 4000000 in
set_option maxRecDepth 100000 in
theorem k_X7_step (l : Launch) (hfl : l.stackTraces = false) (Z : ZT) (hZ : wD Z) (X M O : SS) (p0 : Int32) (p1 : Int32) (Mz : SS) (r : Int32) (hf : f_X7_step M p0 p1 = some (Mz, r)) (sz : Nat) : vx_Met l yX7_step ws_X7_step rm_X7_step (va_Pc [.ref (Z.2.2 26 0), .int p0, .int p1] (cP Z (X, M, O) sz)) (cQi Z (X, Mz, O) (.inl r) sz) (cX Z (X, Mz, O) (.inl r : Int32 ⊕ String) sz) 0 0 (wA Z sz) := by
  refine vx_ofW (cc := cX7_step) (maxL := 3) (ret := (some .int)) (by decide) rfl ?_
  intro p e s m args below meth c s₁ B hml htab hv
  obtain ⟨hargs, hsz, hE, hP, hK⟩ := hv
  have hx := B.exec
  have hb := B.bytes
  have hr := B.returns
  have hts0 := atoms_spec (ws := ws_X7_step) B.pre
  have hts : ∀ w ∈ lw_all, w.before args s = true := fun w h => hts0 w (List.mem_cons_of_mem _ h)
  have hown : s.vm.findClass RX7 = some m.cls := findClass_of_methodNamed B.named
  have hlocks := B.notSynchronized
  have hout9 : ∀ (pc9 : Nat), ∀ x ∈ c.exceptionTable.toList, covers x pc9 = false := fun _ x hx9 => (htab x hx9).elim
  subst hsz
  have hS : va_S (wA Z s.heap.size) s.heap s.heap [] := va_S.rf
  have hl := lv_entry ([.ref (Z.2.2 26 0), .int p0, .int p1]) (n := 3) (Nat.le_of_ble_eq_true rfl)
  have hen : entryFrame m args 3 = entryFrame m ([.ref (Z.2.2 26 0), .int p0, .int p1] : List Value).toArray 3 := by rw [hargs]
  rw [hen, lg_entry_eq]
  generalize (lg_sl ([.ref (Z.2.2 26 0), .int p0, .int p1]) ++ List.replicate (3 - (lg_sl ([.ref (Z.2.2 26 0), .int p0, .int p1])).length) Slot.unset).toArray = ls at hl ⊢
  have hl : lv_has ls 3 [(0, .ref (Z.2.2 26 0)), (1, .int p0), (2, .int p1)] := hl
  have hk := hf
  unfold f_X7_step at hk
  refine lv_iload_n hx hb dX7_step_0 rfl (lv_at hl 1 rfl) ?_
  obtain ⟨v1, hf2, hk⟩ := b0_s hk
  refine wc_iS0 (rest := []) (As := [.int p0]) ⟨hx, hb, hml, hown, hts⟩ (fun sz => k_X7_isLetter l hfl Z hZ X M O p0 v1 hf2 sz) (cw_RX7_157 (args := args) (s := s) hts (Nat.le_of_ble_eq_true rfl) (Nat.le_of_ble_eq_true rfl)) hE hP hK hS  rfl hl.1 rfl (Nat.le_of_ble_eq_true rfl) dX7_step_1 ⟨Nat.le_of_ble_eq_true rfl, Nat.le_of_ble_eq_true rfl⟩ (fun H locs hP hS => ?_)
  refine lv_if_eq (tgt := 26) hx hb dX7_step_4 (by decide) (fun cz3 => ?_) (fun cz3 => ?_)
  · have hk := it_t cz3 hk
    refine lv_aload_n hx hb dX7_step_26 rfl (lv_at hl 0 rfl) ?_
    refine lv_iconst (v := (1 : Int32)) hx hb dX7_step_27 (by decide) ?_
    obtain ⟨M5, v4, hf6, hk⟩ := b1_s hk
    refine wc_iV0 (rest := []) (As := [.int (1 : Int32)]) ⟨hx, hb, hml, hown, hts⟩ (fun sz => k_X7_fails l hfl Z hZ X M O (1 : Int32) M5 v4 hf6 sz) (cw_RX7_165 (args := args) (s := s) hts (Nat.le_of_ble_eq_true rfl) (Nat.le_of_ble_eq_true rfl)) hE hP hK hS (rv_26 hK hP (by decide)) rfl hl.1 rfl (Nat.le_of_ble_eq_true rfl) dX7_step_28 ⟨Nat.le_of_ble_eq_true rfl, Nat.le_of_ble_eq_true rfl⟩ (fun H locs hP hS => ?_)
    cases (show some _ = some _ from hk)
    exact we_i hx hb hr hlocks hP rfl hS dX7_step_31 (by decide) (by decide)
  · have hk := it_f cz3 hk
    refine lv_iload_n hx hb dX7_step_7 rfl (lv_at hl 1 rfl) ?_
    refine lv_bipush (v := (110 : Int32)) hx hb dX7_step_8 (by decide) ?_
    have jn7 : ∀ (H : Heap) (locs : List Loc) (ls : Array Slot), f_X7_step_J32 M p0 p1  = some (Mz, r) → wP Z (X, M, O) H → va_S (wA Z s.heap.size) s.heap H locs → lv_has ls 3 [(0, .ref (Z.2.2 26 0)), (1, .int p0), (2, .int p1)] → W p l e (headSpec ws_X7_step rm_X7_step).room s m args below meth c H locs 0 0 (vx_MQ below (cQi Z (X, Mz, O) (.inl r) s.heap.size) (cX Z (X, Mz, O) (.inl r : Int32 ⊕ String) s.heap.size) args s 0 0 (wA Z s.heap.size)) (F0 m 32 ls []) := by
      intro  H locs ls hk hP hS hl
      unfold f_X7_step_J32 at hk
      refine lv_aload_n hx hb dX7_step_32 rfl (lv_at hl 0 rfl) ?_
      refine gf_RX7_7 hx hb hts hown hK hP (by decide) dX7_step_33 ?_
      refine lv_bipush (v := (24 : Int32)) hx hb dX7_step_36 (by decide) ?_
      refine lv_icmp_ne (tgt := 47) hx hb dX7_step_38 (by decide) (fun cz8 => ?_) (fun cz8 => ?_)
      · have hk := it_f cz8 hk
        refine lv_aload_n hx hb dX7_step_47 rfl (lv_at hl 0 rfl) ?_
        refine gf_RX7_40 hx hb hts hown hK hP (by decide) dX7_step_48 ?_
        refine lv_sipush (v := (960 : Int32)) hx hb dX7_step_51 (by decide) ?_
        refine lv_aload_n hx hb dX7_step_54 rfl (lv_at hl 0 rfl) ?_
        refine gf_RX7_7 hx hb hts hown hK hP (by decide) dX7_step_55 ?_
        refine lv_iadd hx hb dX7_step_58 ?_
        refine lv_iload_n hx hb dX7_step_59 rfl (lv_at hl 1 rfl) ?_
        obtain ⟨hg9, hk⟩ := gd_s hk
        obtain ⟨M10, eM10, hk⟩ := lq_s hk
        refine wa_castore_27 hx hb hZ hK hP hS (by decide) hg9 dX7_step_60 (fun H locs hP hS => ?_)
        rw [← eM10] at hP
        refine lv_aload_n hx hb dX7_step_61 rfl (lv_at hl 0 rfl) ?_
        refine gf_RX7_44 hx hb hts hown hK hP (by decide) dX7_step_62 ?_
        refine lv_sipush (v := (960 : Int32)) hx hb dX7_step_65 (by decide) ?_
        refine lv_aload_n hx hb dX7_step_68 rfl (lv_at hl 0 rfl) ?_
        refine gf_RX7_7 hx hb hts hown hK hP (by decide) dX7_step_69 ?_
        refine lv_iadd hx hb dX7_step_72 ?_
        refine lv_iload_n hx hb dX7_step_73 rfl (lv_at hl 1 rfl) ?_
        refine lv_bipush (v := (110 : Int32)) hx hb dX7_step_74 (by decide) ?_
        have jn12 : ∀ (v11 : Int32) (H : Heap) (locs : List Loc) (ls : Array Slot), f_X7_step_J84 M10 v11 = some (Mz, r) → wP Z (X, M10, O) H → va_S (wA Z s.heap.size) s.heap H locs → lv_has ls 3 [(0, .ref (Z.2.2 26 0))] → W p l e (headSpec ws_X7_step rm_X7_step).room s m args below meth c H locs 0 0 (vx_MQ below (cQi Z (X, Mz, O) (.inl r) s.heap.size) (cX Z (X, Mz, O) (.inl r : Int32 ⊕ String) s.heap.size) args s 0 0 (wA Z s.heap.size)) (F0 m 84 ls [.int v11, .int ((960 : Int32) + (M10.1 26 0 0)), .ref (Z.2.2 28 0)]) := by
          intro v11 H locs ls hk hP hS hl
          unfold f_X7_step_J84 at hk
          obtain ⟨hg13, hk⟩ := gd_s hk
          obtain ⟨M14, eM14, hk⟩ := lq_s hk
          refine wa_iastore_28 hx hb hZ hK hP hS (by decide) hg13 dX7_step_84 (fun H locs hP hS => ?_)
          rw [← eM14] at hP
          refine lv_aload_n hx hb dX7_step_85 rfl (lv_at hl 0 rfl) ?_
          refine lv_dup hx hb dX7_step_86 rfl ?_
          refine gf_RX7_7 hx hb hts hown hK hP (by decide) dX7_step_87 ?_
          refine lv_iconst (v := (1 : Int32)) hx hb dX7_step_90 (by decide) ?_
          refine lv_iadd hx hb dX7_step_91 ?_
          obtain ⟨M15, eM15, hk⟩ := lq_s hk
          refine pf_RX7_7 hx hb hts hown hZ hK hP hS (by decide) dX7_step_92 (fun H locs hP hS => ?_)
          rw [← eM15] at hP
          refine lv_aload_n hx hb dX7_step_95 rfl (lv_at hl 0 rfl) ?_
          refine gf_RX7_48 hx hb hts hown hK hP (by decide) dX7_step_96 ?_
          refine lv_bipush (v := (40 : Int32)) hx hb dX7_step_99 (by decide) ?_
          refine lv_aload_n hx hb dX7_step_101 rfl (lv_at hl 0 rfl) ?_
          refine gf_RX7_7 hx hb hts hown hK hP (by decide) dX7_step_102 ?_
          obtain ⟨M16, eM16, hk⟩ := lq_s hk
          refine wa_iastore_29 hx hb hZ hK hP hS (by decide) (by unfold vp_in; decide) dX7_step_105 (fun H locs hP hS => ?_)
          rw [← eM16] at hP
          refine lv_aload_n hx hb dX7_step_106 rfl (lv_at hl 0 rfl) ?_
          refine lv_aload_n hx hb dX7_step_107 rfl (lv_at hl 0 rfl) ?_
          refine gf_RX7_7 hx hb hts hown hK hP (by decide) dX7_step_108 ?_
          obtain ⟨M18, v17, hf19, hk⟩ := b1_s hk
          refine wc_iV0 (rest := []) (As := [.int (M16.1 26 0 0)]) ⟨hx, hb, hml, hown, hts⟩ (fun sz => k_X7_tells l hfl Z hZ X M16 O (M16.1 26 0 0) M18 v17 hf19 sz) (cw_RX7_169 (args := args) (s := s) hts (Nat.le_of_ble_eq_true rfl) (Nat.le_of_ble_eq_true rfl)) hE hP hK hS (rv_26 hK hP (by decide)) rfl hl.1 rfl (Nat.le_of_ble_eq_true rfl) dX7_step_111 ⟨Nat.le_of_ble_eq_true rfl, Nat.le_of_ble_eq_true rfl⟩ (fun H locs hP hS => ?_)
          cases (show some _ = some _ from hk)
          exact we_i hx hb hr hlocks hP rfl hS dX7_step_114 (by decide) (by decide)
        refine lv_icmp_ne (tgt := 83) hx hb dX7_step_76 (by decide) (fun cz20 => ?_) (fun cz20 => ?_)
        · have hk := it_f cz20 hk
          refine lv_iconst (v := (0 : Int32)) hx hb dX7_step_83 (by decide) ?_
          exact jn12 (0 : Int32) _ _ _ hk hP hS (lv_sub hl [0] rfl)
        · have hk := it_t cz20 hk
          refine lv_iload_n hx hb dX7_step_79 rfl (lv_at hl 2 rfl) ?_
          refine lv_goto (tgt := 84) hx hb dX7_step_80 (by decide) ?_
          exact jn12 p1 _ _ _ hk hP hS (lv_sub hl [0] rfl)
      · have hk := it_t cz8 hk
        refine lv_aload_n hx hb dX7_step_41 rfl (lv_at hl 0 rfl) ?_
        refine lv_iconst (v := (2 : Int32)) hx hb dX7_step_42 (by decide) ?_
        obtain ⟨M22, v21, hf23, hk⟩ := b1_s hk
        refine wc_iV0 (rest := []) (As := [.int (2 : Int32)]) ⟨hx, hb, hml, hown, hts⟩ (fun sz => k_X7_fails l hfl Z hZ X M O (2 : Int32) M22 v21 hf23 sz) (cw_RX7_165 (args := args) (s := s) hts (Nat.le_of_ble_eq_true rfl) (Nat.le_of_ble_eq_true rfl)) hE hP hK hS (rv_26 hK hP (by decide)) rfl hl.1 rfl (Nat.le_of_ble_eq_true rfl) dX7_step_43 ⟨Nat.le_of_ble_eq_true rfl, Nat.le_of_ble_eq_true rfl⟩ (fun H locs hP hS => ?_)
        cases (show some _ = some _ from hk)
        exact we_i hx hb hr hlocks hP rfl hS dX7_step_46 (by decide) (by decide)
    refine lv_icmp_ne (tgt := 32) hx hb dX7_step_10 (by decide) (fun cz24 => ?_) (fun cz24 => ?_)
    · have hk := it_f cz24 hk
      exact jn7 _ _ _ hk hP hS (lv_sub hl [0, 1, 2] rfl)
    · have hk := it_t cz24 hk
      refine lv_iload_n hx hb dX7_step_13 rfl (lv_at hl 2 rfl) ?_
      refine lv_sipush (v := ((-999) : Int32)) hx hb dX7_step_14 (by decide) ?_
      refine lv_sipush (v := (999 : Int32)) hx hb dX7_step_17 (by decide) ?_
      obtain ⟨v25, hf26, hk⟩ := b0_s hk
      refine wc_iS0 (rest := []) (As := [.int p1, .int ((-999) : Int32), .int (999 : Int32)]) ⟨hx, hb, hml, hown, hts⟩ (fun sz => k_X7_in l hfl Z hZ X M O p1 ((-999) : Int32) (999 : Int32) v25 hf26 sz) (cw_RX7_161 (args := args) (s := s) hts (Nat.le_of_ble_eq_true rfl) (Nat.le_of_ble_eq_true rfl)) hE hP hK hS  rfl hl.1 rfl (Nat.le_of_ble_eq_true rfl) dX7_step_20 ⟨Nat.le_of_ble_eq_true rfl, Nat.le_of_ble_eq_true rfl⟩ (fun H locs hP hS => ?_)
      refine lv_if_ne (tgt := 32) hx hb dX7_step_23 (by decide) (fun cz27 => ?_) (fun cz27 => ?_)
      · have hk := it_f cz27 hk
        exact jn7 _ _ _ hk hP hS (lv_sub hl [0, 1, 2] rfl)
      · have hk := it_t cz27 hk
        refine lv_aload_n hx hb dX7_step_26 rfl (lv_at hl 0 rfl) ?_
        refine lv_iconst (v := (1 : Int32)) hx hb dX7_step_27 (by decide) ?_
        obtain ⟨M29, v28, hf30, hk⟩ := b1_s hk
        refine wc_iV0 (rest := []) (As := [.int (1 : Int32)]) ⟨hx, hb, hml, hown, hts⟩ (fun sz => k_X7_fails l hfl Z hZ X M O (1 : Int32) M29 v28 hf30 sz) (cw_RX7_165 (args := args) (s := s) hts (Nat.le_of_ble_eq_true rfl) (Nat.le_of_ble_eq_true rfl)) hE hP hK hS (rv_26 hK hP (by decide)) rfl hl.1 rfl (Nat.le_of_ble_eq_true rfl) dX7_step_28 ⟨Nat.le_of_ble_eq_true rfl, Nat.le_of_ble_eq_true rfl⟩ (fun H locs hP hS => ?_)
        cases (show some _ = some _ from hk)
        exact we_i hx hb hr hlocks hP rfl hS dX7_step_31 (by decide) (by decide)
set_option maxHeartbeats 4000000 in
set_option maxRecDepth 100000 in
theorem k_X7_wipe (l : Launch) (hfl : l.stackTraces = false) (Z : ZT) (hZ : wD Z) (X M O : SS) (Mz : SS) (r : Int32) (hf : f_X7_wipe M = some (Mz, r)) (sz : Nat) : vx_Met l yX7_wipe ws_X7_wipe rm_X7_wipe (va_Pc [.ref (Z.2.2 26 0)] (cP Z (X, M, O) sz)) (cQi Z (X, Mz, O) (.inl r) sz) (cX Z (X, Mz, O) (.inl r : Int32 ⊕ String) sz) 0 0 (wA Z sz) := by
  refine vx_ofW (cc := cX7_wipe) (maxL := 2) (ret := (some .int)) (by decide) rfl ?_
  intro p e s m args below meth c s₁ B hml htab hv
  obtain ⟨hargs, hsz, hE, hP, hK⟩ := hv
  have hx := B.exec
  have hb := B.bytes
  have hr := B.returns
  have hts0 := atoms_spec (ws := ws_X7_wipe) B.pre
  have hts : ∀ w ∈ lw_all, w.before args s = true := fun w h => hts0 w (List.mem_cons_of_mem _ h)
  have hown : s.vm.findClass RX7 = some m.cls := findClass_of_methodNamed B.named
  have hlocks := B.notSynchronized
  have hout9 : ∀ (pc9 : Nat), ∀ x ∈ c.exceptionTable.toList, covers x pc9 = false := fun _ x hx9 => (htab x hx9).elim
  subst hsz
  have hS : va_S (wA Z s.heap.size) s.heap s.heap [] := va_S.rf
  have hl := lv_entry ([.ref (Z.2.2 26 0)]) (n := 2) (Nat.le_of_ble_eq_true rfl)
  have hen : entryFrame m args 2 = entryFrame m ([.ref (Z.2.2 26 0)] : List Value).toArray 2 := by rw [hargs]
  rw [hen, lg_entry_eq]
  generalize (lg_sl ([.ref (Z.2.2 26 0)]) ++ List.replicate (2 - (lg_sl ([.ref (Z.2.2 26 0)])).length) Slot.unset).toArray = ls at hl ⊢
  have hl : lv_has ls 2 [(0, .ref (Z.2.2 26 0))] := hl
  have hk := hf
  unfold f_X7_wipe at hk
  refine lv_aload_n hx hb dX7_wipe_0 rfl (lv_at hl 0 rfl) ?_
  refine gf_RX7_7 hx hb hts hown hK hP (by decide) dX7_wipe_1 ?_
  obtain ⟨v1, ev1, hk⟩ := lq_s hk
  refine W.eq (g2 := F0 m 4 ls [.int v1]) (by rw [ev1]) ?_
  refine lv_istore_n (lv' := [(1, .int v1), (0, .ref (Z.2.2 26 0))]) hx hb dX7_wipe_4 rfl hl (by decide) rfl (fun ls hl => ?_)
  refine lv_aload_n hx hb dX7_wipe_5 rfl (lv_at hl 1 rfl) ?_
  refine lv_iconst (v := (0 : Int32)) hx hb dX7_wipe_6 (by decide) ?_
  obtain ⟨M2, eM2, hk⟩ := lq_s hk
  refine pf_RX7_7 hx hb hts hown hZ hK hP hS (by decide) dX7_wipe_7 (fun H locs hP hS => ?_)
  rw [← eM2] at hP
  refine lv_aload_n hx hb dX7_wipe_10 rfl (lv_at hl 1 rfl) ?_
  refine gf_RX7_48 hx hb hts hown hK hP (by decide) dX7_wipe_11 ?_
  refine lv_bipush (v := (40 : Int32)) hx hb dX7_wipe_14 (by decide) ?_
  refine lv_iconst (v := (0 : Int32)) hx hb dX7_wipe_16 (by decide) ?_
  obtain ⟨M3, eM3, hk⟩ := lq_s hk
  refine wa_iastore_29 hx hb hZ hK hP hS (by decide) (by unfold vp_in; decide) dX7_wipe_17 (fun H locs hP hS => ?_)
  rw [← eM3] at hP
  refine lv_aload_n hx hb dX7_wipe_18 rfl (lv_at hl 1 rfl) ?_
  refine lv_iload_n hx hb dX7_wipe_19 rfl (lv_at hl 0 rfl) ?_
  obtain ⟨M5, v4, hf6, hk⟩ := b1_s hk
  refine wc_iV0 (rest := []) (As := [.int v1]) ⟨hx, hb, hml, hown, hts⟩ (fun sz => k_X7_tells l hfl Z hZ X M3 O v1 M5 v4 hf6 sz) (cw_RX7_169 (args := args) (s := s) hts (Nat.le_of_ble_eq_true rfl) (Nat.le_of_ble_eq_true rfl)) hE hP hK hS (rv_26 hK hP (by decide)) rfl hl.1 rfl (Nat.le_of_ble_eq_true rfl) dX7_wipe_20 ⟨Nat.le_of_ble_eq_true rfl, Nat.le_of_ble_eq_true rfl⟩ (fun H locs hP hS => ?_)
  cases (show some _ = some _ from hk)
  exact we_i hx hb hr hlocks hP rfl hS dX7_wipe_23 (by decide) (by decide)
set_option maxHeartbeats 4000000 in
set_option maxRecDepth 100000 in
theorem k_X7_number (l : Launch) (hfl : l.stackTraces = false) (Z : ZT) (hZ : wD Z) (X M O : SS) (p0 : Int32) (p1 : Int32) (Mz : SS) (r : Int32) (hf : f_X7_number M p0 p1 = some (Mz, r)) (sz : Nat) : vx_Met l yX7_number ws_X7_number rm_X7_number (va_Pc [.ref (Z.2.2 26 0), .int p0, .int p1] (cP Z (X, M, O) sz)) (cQi Z (X, Mz, O) (.inl r) sz) (cX Z (X, Mz, O) (.inl r : Int32 ⊕ String) sz) 0 0 (wA Z sz) := by
  refine vx_ofW (cc := cX7_number) (maxL := 3) (ret := (some .int)) (by decide) rfl ?_
  intro p e s m args below meth c s₁ B hml htab hv
  obtain ⟨hargs, hsz, hE, hP, hK⟩ := hv
  have hx := B.exec
  have hb := B.bytes
  have hr := B.returns
  have hts0 := atoms_spec (ws := ws_X7_number) B.pre
  have hts : ∀ w ∈ lw_all, w.before args s = true := fun w h => hts0 w (List.mem_cons_of_mem _ h)
  have hown : s.vm.findClass RX7 = some m.cls := findClass_of_methodNamed B.named
  have hlocks := B.notSynchronized
  have hout9 : ∀ (pc9 : Nat), ∀ x ∈ c.exceptionTable.toList, covers x pc9 = false := fun _ x hx9 => (htab x hx9).elim
  subst hsz
  have hS : va_S (wA Z s.heap.size) s.heap s.heap [] := va_S.rf
  have hl := lv_entry ([.ref (Z.2.2 26 0), .int p0, .int p1]) (n := 3) (Nat.le_of_ble_eq_true rfl)
  have hen : entryFrame m args 3 = entryFrame m ([.ref (Z.2.2 26 0), .int p0, .int p1] : List Value).toArray 3 := by rw [hargs]
  rw [hen, lg_entry_eq]
  generalize (lg_sl ([.ref (Z.2.2 26 0), .int p0, .int p1]) ++ List.replicate (3 - (lg_sl ([.ref (Z.2.2 26 0), .int p0, .int p1])).length) Slot.unset).toArray = ls at hl ⊢
  have hl : lv_has ls 3 [(0, .ref (Z.2.2 26 0)), (1, .int p0), (2, .int p1)] := hl
  have hk := hf
  unfold f_X7_number at hk
  refine lv_iload_n hx hb dX7_number_0 rfl (lv_at hl 1 rfl) ?_
  refine lv_sipush (v := ((-999) : Int32)) hx hb dX7_number_1 (by decide) ?_
  refine lv_sipush (v := (999 : Int32)) hx hb dX7_number_4 (by decide) ?_
  obtain ⟨v1, hf2, hk⟩ := b0_s hk
  refine wc_iS0 (rest := []) (As := [.int p0, .int ((-999) : Int32), .int (999 : Int32)]) ⟨hx, hb, hml, hown, hts⟩ (fun sz => k_X7_in l hfl Z hZ X M O p0 ((-999) : Int32) (999 : Int32) v1 hf2 sz) (cw_RX7_161 (args := args) (s := s) hts (Nat.le_of_ble_eq_true rfl) (Nat.le_of_ble_eq_true rfl)) hE hP hK hS  rfl hl.1 rfl (Nat.le_of_ble_eq_true rfl) dX7_number_7 ⟨Nat.le_of_ble_eq_true rfl, Nat.le_of_ble_eq_true rfl⟩ (fun H locs hP hS => ?_)
  refine lv_if_ne (tgt := 19) hx hb dX7_number_10 (by decide) (fun cz3 => ?_) (fun cz3 => ?_)
  · have hk := it_f cz3 hk
    refine lv_iload_n hx hb dX7_number_19 rfl (lv_at hl 2 rfl) ?_
    have jn4 : ∀ (H : Heap) (locs : List Loc) (ls : Array Slot), f_X7_number_J49 p1 M p0  = some (Mz, r) → wP Z (X, M, O) H → va_S (wA Z s.heap.size) s.heap H locs → lv_has ls 3 [(0, .ref (Z.2.2 26 0)), (1, .int p0), (2, .int p1)] → W p l e (headSpec ws_X7_number rm_X7_number).room s m args below meth c H locs 0 0 (vx_MQ below (cQi Z (X, Mz, O) (.inl r) s.heap.size) (cX Z (X, Mz, O) (.inl r : Int32 ⊕ String) s.heap.size) args s 0 0 (wA Z s.heap.size)) (F0 m 49 ls []) := by
      intro  H locs ls hk hP hS hl
      unfold f_X7_number_J49 at hk
      refine lv_iload_n hx hb dX7_number_49 rfl (lv_at hl 2 rfl) ?_
      refine lv_if_eq (tgt := 82) hx hb dX7_number_50 (by decide) (fun cz5 => ?_) (fun cz5 => ?_)
      · have hk := it_t cz5 hk
        refine lv_aload_n hx hb dX7_number_82 rfl (lv_at hl 0 rfl) ?_
        refine gf_RX7_51 hx hb hts hown hK hP (by decide) dX7_number_83 ?_
        refine lv_aload_n hx hb dX7_number_86 rfl (lv_at hl 0 rfl) ?_
        refine gf_RX7_13 hx hb hts hown hK hP (by decide) dX7_number_87 ?_
        refine lv_iload_n hx hb dX7_number_90 rfl (lv_at hl 1 rfl) ?_
        obtain ⟨hg6, hk⟩ := gd_s hk
        obtain ⟨M7, eM7, hk⟩ := lq_s hk
        refine wa_iastore_30 hx hb hZ hK hP hS (by decide) hg6 dX7_number_91 (fun H locs hP hS => ?_)
        rw [← eM7] at hP
        refine lv_aload_n hx hb dX7_number_92 rfl (lv_at hl 0 rfl) ?_
        refine lv_dup hx hb dX7_number_93 rfl ?_
        refine gf_RX7_13 hx hb hts hown hK hP (by decide) dX7_number_94 ?_
        refine lv_iconst (v := (1 : Int32)) hx hb dX7_number_97 (by decide) ?_
        refine lv_iadd hx hb dX7_number_98 ?_
        obtain ⟨M8, eM8, hk⟩ := lq_s hk
        refine pf_RX7_13 hx hb hts hown hZ hK hP hS (by decide) dX7_number_99 (fun H locs hP hS => ?_)
        rw [← eM8] at hP
        refine lv_aload_n hx hb dX7_number_102 rfl (lv_at hl 0 rfl) ?_
        refine lv_aload_n hx hb dX7_number_103 rfl (lv_at hl 0 rfl) ?_
        refine gf_RX7_13 hx hb hts hown hK hP (by decide) dX7_number_104 ?_
        obtain ⟨M10, v9, hf11, hk⟩ := b1_s hk
        refine wc_iV0 (rest := []) (As := [.int (M8.1 26 0 1)]) ⟨hx, hb, hml, hown, hts⟩ (fun sz => k_X7_tells l hfl Z hZ X M8 O (M8.1 26 0 1) M10 v9 hf11 sz) (cw_RX7_169 (args := args) (s := s) hts (Nat.le_of_ble_eq_true rfl) (Nat.le_of_ble_eq_true rfl)) hE hP hK hS (rv_26 hK hP (by decide)) rfl hl.1 rfl (Nat.le_of_ble_eq_true rfl) dX7_number_107 ⟨Nat.le_of_ble_eq_true rfl, Nat.le_of_ble_eq_true rfl⟩ (fun H locs hP hS => ?_)
        cases (show some _ = some _ from hk)
        exact we_i hx hb hr hlocks hP rfl hS dX7_number_110 (by decide) (by decide)
      · have hk := it_f cz5 hk
        refine lv_aload_n hx hb dX7_number_53 rfl (lv_at hl 0 rfl) ?_
        refine gf_RX7_54 hx hb hts hown hK hP (by decide) dX7_number_54 ?_
        refine lv_aload_n hx hb dX7_number_57 rfl (lv_at hl 0 rfl) ?_
        refine gf_RX7_16 hx hb hts hown hK hP (by decide) dX7_number_58 ?_
        refine lv_iload_n hx hb dX7_number_61 rfl (lv_at hl 1 rfl) ?_
        obtain ⟨hg12, hk⟩ := gd_s hk
        obtain ⟨M13, eM13, hk⟩ := lq_s hk
        refine wa_iastore_31 hx hb hZ hK hP hS (by decide) hg12 dX7_number_62 (fun H locs hP hS => ?_)
        rw [← eM13] at hP
        refine lv_aload_n hx hb dX7_number_63 rfl (lv_at hl 0 rfl) ?_
        refine lv_dup hx hb dX7_number_64 rfl ?_
        refine gf_RX7_16 hx hb hts hown hK hP (by decide) dX7_number_65 ?_
        refine lv_iconst (v := (1 : Int32)) hx hb dX7_number_68 (by decide) ?_
        refine lv_iadd hx hb dX7_number_69 ?_
        obtain ⟨M14, eM14, hk⟩ := lq_s hk
        refine pf_RX7_16 hx hb hts hown hZ hK hP hS (by decide) dX7_number_70 (fun H locs hP hS => ?_)
        rw [← eM14] at hP
        refine lv_aload_n hx hb dX7_number_73 rfl (lv_at hl 0 rfl) ?_
        refine lv_aload_n hx hb dX7_number_74 rfl (lv_at hl 0 rfl) ?_
        refine gf_RX7_16 hx hb hts hown hK hP (by decide) dX7_number_75 ?_
        obtain ⟨M16, v15, hf17, hk⟩ := b1_s hk
        refine wc_iV0 (rest := []) (As := [.int (M14.1 26 0 2)]) ⟨hx, hb, hml, hown, hts⟩ (fun sz => k_X7_tells l hfl Z hZ X M14 O (M14.1 26 0 2) M16 v15 hf17 sz) (cw_RX7_169 (args := args) (s := s) hts (Nat.le_of_ble_eq_true rfl) (Nat.le_of_ble_eq_true rfl)) hE hP hK hS (rv_26 hK hP (by decide)) rfl hl.1 rfl (Nat.le_of_ble_eq_true rfl) dX7_number_78 ⟨Nat.le_of_ble_eq_true rfl, Nat.le_of_ble_eq_true rfl⟩ (fun H locs hP hS => ?_)
        cases (show some _ = some _ from hk)
        exact we_i hx hb hr hlocks hP rfl hS dX7_number_81 (by decide) (by decide)
    refine lv_if_eq (tgt := 35) hx hb dX7_number_20 (by decide) (fun cz18 => ?_) (fun cz18 => ?_)
    · have hk := it_t cz18 hk
      refine lv_aload_n hx hb dX7_number_35 rfl (lv_at hl 0 rfl) ?_
      refine gf_RX7_13 hx hb hts hown hK hP (by decide) dX7_number_36 ?_
      refine lv_iconst (v := (4 : Int32)) hx hb dX7_number_39 (by decide) ?_
      refine lv_icmp_ne (tgt := 49) hx hb dX7_number_40 (by decide) (fun cz19 => ?_) (fun cz19 => ?_)
      · have hk := it_f cz19 hk
        exact jn4 _ _ _ hk hP hS (lv_sub hl [0, 1, 2] rfl)
      · have hk := it_t cz19 hk
        refine lv_aload_n hx hb dX7_number_43 rfl (lv_at hl 0 rfl) ?_
        refine lv_iconst (v := (2 : Int32)) hx hb dX7_number_44 (by decide) ?_
        obtain ⟨M21, v20, hf22, hk⟩ := b1_s hk
        refine wc_iV0 (rest := []) (As := [.int (2 : Int32)]) ⟨hx, hb, hml, hown, hts⟩ (fun sz => k_X7_fails l hfl Z hZ X M O (2 : Int32) M21 v20 hf22 sz) (cw_RX7_165 (args := args) (s := s) hts (Nat.le_of_ble_eq_true rfl) (Nat.le_of_ble_eq_true rfl)) hE hP hK hS (rv_26 hK hP (by decide)) rfl hl.1 rfl (Nat.le_of_ble_eq_true rfl) dX7_number_45 ⟨Nat.le_of_ble_eq_true rfl, Nat.le_of_ble_eq_true rfl⟩ (fun H locs hP hS => ?_)
        cases (show some _ = some _ from hk)
        exact we_i hx hb hr hlocks hP rfl hS dX7_number_48 (by decide) (by decide)
    · have hk := it_f cz18 hk
      refine lv_aload_n hx hb dX7_number_23 rfl (lv_at hl 0 rfl) ?_
      refine gf_RX7_16 hx hb hts hown hK hP (by decide) dX7_number_24 ?_
      refine lv_bipush (v := (6 : Int32)) hx hb dX7_number_27 (by decide) ?_
      refine lv_icmp_ne (tgt := 49) hx hb dX7_number_29 (by decide) (fun cz23 => ?_) (fun cz23 => ?_)
      · have hk := it_f cz23 hk
        exact jn4 _ _ _ hk hP hS (lv_sub hl [0, 1, 2] rfl)
      · have hk := it_t cz23 hk
        refine lv_goto (tgt := 43) hx hb dX7_number_32 (by decide) ?_
        refine lv_aload_n hx hb dX7_number_43 rfl (lv_at hl 0 rfl) ?_
        refine lv_iconst (v := (2 : Int32)) hx hb dX7_number_44 (by decide) ?_
        obtain ⟨M25, v24, hf26, hk⟩ := b1_s hk
        refine wc_iV0 (rest := []) (As := [.int (2 : Int32)]) ⟨hx, hb, hml, hown, hts⟩ (fun sz => k_X7_fails l hfl Z hZ X M O (2 : Int32) M25 v24 hf26 sz) (cw_RX7_165 (args := args) (s := s) hts (Nat.le_of_ble_eq_true rfl) (Nat.le_of_ble_eq_true rfl)) hE hP hK hS (rv_26 hK hP (by decide)) rfl hl.1 rfl (Nat.le_of_ble_eq_true rfl) dX7_number_45 ⟨Nat.le_of_ble_eq_true rfl, Nat.le_of_ble_eq_true rfl⟩ (fun H locs hP hS => ?_)
        cases (show some _ = some _ from hk)
        exact we_i hx hb hr hlocks hP rfl hS dX7_number_48 (by decide) (by decide)
  · have hk := it_t cz3 hk
    refine lv_aload_n hx hb dX7_number_13 rfl (lv_at hl 0 rfl) ?_
    refine lv_iconst (v := (1 : Int32)) hx hb dX7_number_14 (by decide) ?_
    obtain ⟨M28, v27, hf29, hk⟩ := b1_s hk
    refine wc_iV0 (rest := []) (As := [.int (1 : Int32)]) ⟨hx, hb, hml, hown, hts⟩ (fun sz => k_X7_fails l hfl Z hZ X M O (1 : Int32) M28 v27 hf29 sz) (cw_RX7_165 (args := args) (s := s) hts (Nat.le_of_ble_eq_true rfl) (Nat.le_of_ble_eq_true rfl)) hE hP hK hS (rv_26 hK hP (by decide)) rfl hl.1 rfl (Nat.le_of_ble_eq_true rfl) dX7_number_15 ⟨Nat.le_of_ble_eq_true rfl, Nat.le_of_ble_eq_true rfl⟩ (fun H locs hP hS => ?_)
    cases (show some _ = some _ from hk)
    exact we_i hx hb hr hlocks hP rfl hS dX7_number_18 (by decide) (by decide)
set_option maxHeartbeats 4000000 in
set_option maxRecDepth 100000 in
theorem k_X7_clears (l : Launch) (hfl : l.stackTraces = false) (Z : ZT) (hZ : wD Z) (X M O : SS) (Mz : SS) (r : Int32) (hf : f_X7_clears M = some (Mz, r)) (sz : Nat) : vx_Met l yX7_clears ws_X7_clears rm_X7_clears (va_Pc [.ref (Z.2.2 26 0)] (cP Z (X, M, O) sz)) (cQi Z (X, Mz, O) (.inl r) sz) (cX Z (X, Mz, O) (.inl r : Int32 ⊕ String) sz) 0 0 (wA Z sz) := by
  refine vx_ofW (cc := cX7_clears) (maxL := 2) (ret := (some .int)) (by decide) rfl ?_
  intro p e s m args below meth c s₁ B hml htab hv
  obtain ⟨hargs, hsz, hE, hP, hK⟩ := hv
  have hx := B.exec
  have hb := B.bytes
  have hr := B.returns
  have hts0 := atoms_spec (ws := ws_X7_clears) B.pre
  have hts : ∀ w ∈ lw_all, w.before args s = true := fun w h => hts0 w (List.mem_cons_of_mem _ h)
  have hown : s.vm.findClass RX7 = some m.cls := findClass_of_methodNamed B.named
  have hlocks := B.notSynchronized
  have hout9 : ∀ (pc9 : Nat), ∀ x ∈ c.exceptionTable.toList, covers x pc9 = false := fun _ x hx9 => (htab x hx9).elim
  subst hsz
  have hS : va_S (wA Z s.heap.size) s.heap s.heap [] := va_S.rf
  have hl := lv_entry ([.ref (Z.2.2 26 0)]) (n := 2) (Nat.le_of_ble_eq_true rfl)
  have hen : entryFrame m args 2 = entryFrame m ([.ref (Z.2.2 26 0)] : List Value).toArray 2 := by rw [hargs]
  rw [hen, lg_entry_eq]
  generalize (lg_sl ([.ref (Z.2.2 26 0)]) ++ List.replicate (2 - (lg_sl ([.ref (Z.2.2 26 0)])).length) Slot.unset).toArray = ls at hl ⊢
  have hl : lv_has ls 2 [(0, .ref (Z.2.2 26 0))] := hl
  have hk := hf
  unfold f_X7_clears at hk
  refine lv_aload_n hx hb dX7_clears_0 rfl (lv_at hl 0 rfl) ?_
  refine gf_RX7_13 hx hb hts hown hK hP (by decide) dX7_clears_1 ?_
  refine lv_aload_n hx hb dX7_clears_4 rfl (lv_at hl 0 rfl) ?_
  refine gf_RX7_16 hx hb hts hown hK hP (by decide) dX7_clears_5 ?_
  refine lv_iadd hx hb dX7_clears_8 ?_
  obtain ⟨v1, ev1, hk⟩ := lq_s hk
  refine W.eq (g2 := F0 m 9 ls [.int v1]) (by rw [ev1]) ?_
  refine lv_istore_n (lv' := [(1, .int v1), (0, .ref (Z.2.2 26 0))]) hx hb dX7_clears_9 rfl hl (by decide) rfl (fun ls hl => ?_)
  refine lv_aload_n hx hb dX7_clears_10 rfl (lv_at hl 1 rfl) ?_
  refine lv_iconst (v := (0 : Int32)) hx hb dX7_clears_11 (by decide) ?_
  obtain ⟨M2, eM2, hk⟩ := lq_s hk
  refine pf_RX7_13 hx hb hts hown hZ hK hP hS (by decide) dX7_clears_12 (fun H locs hP hS => ?_)
  rw [← eM2] at hP
  refine lv_aload_n hx hb dX7_clears_15 rfl (lv_at hl 1 rfl) ?_
  refine lv_iconst (v := (0 : Int32)) hx hb dX7_clears_16 (by decide) ?_
  obtain ⟨M3, eM3, hk⟩ := lq_s hk
  refine pf_RX7_16 hx hb hts hown hZ hK hP hS (by decide) dX7_clears_17 (fun H locs hP hS => ?_)
  rw [← eM3] at hP
  refine lv_iload_n hx hb dX7_clears_20 rfl (lv_at hl 0 rfl) ?_
  cases (show some _ = some _ from hk)
  exact we_i hx hb hr hlocks hP rfl hS dX7_clears_21 (by decide) (by decide)
set_option maxHeartbeats 4000000 in
set_option maxRecDepth 100000 in
theorem k_X7_clear (l : Launch) (hfl : l.stackTraces = false) (Z : ZT) (hZ : wD Z) (X M O : SS) (Mz : SS) (r : Int32) (hf : f_X7_clear M = some (Mz, r)) (sz : Nat) : vx_Met l yX7_clear ws_X7_clear rm_X7_clear (va_Pc [.ref (Z.2.2 26 0)] (cP Z (X, M, O) sz)) (cQi Z (X, Mz, O) (.inl r) sz) (cX Z (X, Mz, O) (.inl r : Int32 ⊕ String) sz) 0 0 (wA Z sz) := by
  refine vx_ofW (cc := cX7_clear) (maxL := 1) (ret := (some .int)) (by decide) rfl ?_
  intro p e s m args below meth c s₁ B hml htab hv
  obtain ⟨hargs, hsz, hE, hP, hK⟩ := hv
  have hx := B.exec
  have hb := B.bytes
  have hr := B.returns
  have hts0 := atoms_spec (ws := ws_X7_clear) B.pre
  have hts : ∀ w ∈ lw_all, w.before args s = true := fun w h => hts0 w (List.mem_cons_of_mem _ h)
  have hown : s.vm.findClass RX7 = some m.cls := findClass_of_methodNamed B.named
  have hlocks := B.notSynchronized
  have hout9 : ∀ (pc9 : Nat), ∀ x ∈ c.exceptionTable.toList, covers x pc9 = false := fun _ x hx9 => (htab x hx9).elim
  subst hsz
  have hS : va_S (wA Z s.heap.size) s.heap s.heap [] := va_S.rf
  have hl := lv_entry ([.ref (Z.2.2 26 0)]) (n := 1) (Nat.le_of_ble_eq_true rfl)
  have hen : entryFrame m args 1 = entryFrame m ([.ref (Z.2.2 26 0)] : List Value).toArray 1 := by rw [hargs]
  rw [hen, lg_entry_eq]
  generalize (lg_sl ([.ref (Z.2.2 26 0)]) ++ List.replicate (1 - (lg_sl ([.ref (Z.2.2 26 0)])).length) Slot.unset).toArray = ls at hl ⊢
  have hl : lv_has ls 1 [(0, .ref (Z.2.2 26 0))] := hl
  have hk := hf
  unfold f_X7_clear at hk
  refine lv_aload_n hx hb dX7_clear_0 rfl (lv_at hl 0 rfl) ?_
  refine lv_aload_n hx hb dX7_clear_1 rfl (lv_at hl 0 rfl) ?_
  obtain ⟨M2, v1, hf3, hk⟩ := b1_s hk
  refine wc_iV0 (rest := [.ref (Z.2.2 26 0)]) (As := []) ⟨hx, hb, hml, hown, hts⟩ (fun sz => k_X7_clears l hfl Z hZ X M O M2 v1 hf3 sz) (cw_RX7_172 (args := args) (s := s) hts (Nat.le_of_ble_eq_true rfl) (Nat.le_of_ble_eq_true rfl)) hE hP hK hS (rv_26 hK hP (by decide)) rfl hl.1 rfl (Nat.le_of_ble_eq_true rfl) dX7_clear_2 ⟨Nat.le_of_ble_eq_true rfl, Nat.le_of_ble_eq_true rfl⟩ (fun H locs hP hS => ?_)
  obtain ⟨M5, v4, hf6, hk⟩ := b1_s hk
  refine wc_iV0 (rest := []) (As := [.int v1]) ⟨hx, hb, hml, hown, hts⟩ (fun sz => k_X7_tells l hfl Z hZ X M2 O v1 M5 v4 hf6 sz) (cw_RX7_169 (args := args) (s := s) hts (Nat.le_of_ble_eq_true rfl) (Nat.le_of_ble_eq_true rfl)) hE hP hK hS (rv_26 hK hP (by decide)) rfl hl.1 rfl (Nat.le_of_ble_eq_true rfl) dX7_clear_5 ⟨Nat.le_of_ble_eq_true rfl, Nat.le_of_ble_eq_true rfl⟩ (fun H locs hP hS => ?_)
  cases (show some _ = some _ from hk)
  exact we_i hx hb hr hlocks hP rfl hS dX7_clear_8 (by decide) (by decide)
set_option maxHeartbeats 4000000 in
set_option maxRecDepth 100000 in
theorem k_X7_partner (l : Launch) (hfl : l.stackTraces = false) (Z : ZT) (hZ : wD Z) (X M O : SS) (p0 : Int32) (p1 : Int32) (p2 : Int32) (r : Int32) (hf : f_X7_partner M p0 p1 p2 = some (r)) (sz : Nat) : vx_Met l yX7_partner ws_X7_partner rm_X7_partner (va_Pc [.ref (Z.2.2 26 0), .int p0, .int p1, .int p2] (cP Z (X, M, O) sz)) (cQi Z (X, M, O) (.inl r) sz) (cX Z (X, M, O) (.inl r : Int32 ⊕ String) sz) 0 0 (wA Z sz) := by
  refine vx_ofW (cc := cX7_partner) (maxL := 6) (ret := (some .int)) (by decide) rfl ?_
  intro p e s m args below meth c s₁ B hml htab hv
  obtain ⟨hargs, hsz, hE, hP, hK⟩ := hv
  have hx := B.exec
  have hb := B.bytes
  have hr := B.returns
  have hts0 := atoms_spec (ws := ws_X7_partner) B.pre
  have hts : ∀ w ∈ lw_all, w.before args s = true := fun w h => hts0 w (List.mem_cons_of_mem _ h)
  have hown : s.vm.findClass RX7 = some m.cls := findClass_of_methodNamed B.named
  have hlocks := B.notSynchronized
  have hout9 : ∀ (pc9 : Nat), ∀ x ∈ c.exceptionTable.toList, covers x pc9 = false := fun _ x hx9 => (htab x hx9).elim
  subst hsz
  have hS : va_S (wA Z s.heap.size) s.heap s.heap [] := va_S.rf
  have hl := lv_entry ([.ref (Z.2.2 26 0), .int p0, .int p1, .int p2]) (n := 6) (Nat.le_of_ble_eq_true rfl)
  have hen : entryFrame m args 6 = entryFrame m ([.ref (Z.2.2 26 0), .int p0, .int p1, .int p2] : List Value).toArray 6 := by rw [hargs]
  rw [hen, lg_entry_eq]
  generalize (lg_sl ([.ref (Z.2.2 26 0), .int p0, .int p1, .int p2]) ++ List.replicate (6 - (lg_sl ([.ref (Z.2.2 26 0), .int p0, .int p1, .int p2])).length) Slot.unset).toArray = ls at hl ⊢
  have hl : lv_has ls 6 [(0, .ref (Z.2.2 26 0)), (1, .int p0), (2, .int p1), (3, .int p2)] := hl
  have hk := hf
  unfold f_X7_partner at hk
  refine lv_iconst (v := (0 : Int32)) hx hb dX7_partner_0 (by decide) ?_
  refine lv_istore (lv' := [(4, .int (0 : Int32)), (0, .ref (Z.2.2 26 0)), (1, .int p0), (2, .int p1), (3, .int p2)]) hx hb dX7_partner_1 hl (by decide) rfl (fun ls hl => ?_)
  refine lv_iload_n hx hb dX7_partner_3 rfl (lv_at hl 3 rfl) ?_
  refine lv_istore (lv' := [(5, .int p1), (4, .int (0 : Int32)), (0, .ref (Z.2.2 26 0)), (1, .int p0), (2, .int p1), (3, .int p2)]) hx hb dX7_partner_4 hl (by decide) rfl (fun ls hl => ?_)
  obtain ⟨k1, hk1, hk⟩ := gn hk
  have ex1 : ∀ (H : Heap) (locs : List Loc) (ls : Array Slot), k1 () = some (r) → wP Z (X, M, O) H → va_S (wA Z s.heap.size) s.heap H locs → lv_has ls 6 [] → W p l e (headSpec ws_X7_partner rm_X7_partner).room s m args below meth c H locs 0 0 (vx_MQ below (cQi Z (X, M, O) (.inl r) s.heap.size) (cX Z (X, M, O) (.inl r : Int32 ⊕ String) s.heap.size) args s 0 0 (wA Z s.heap.size)) (F0 m 88 ls []) := by
    intro  H locs ls hk hP hS hl
    subst hk1
    refine lv_iconst (v := ((-1) : Int32)) hx hb dX7_partner_88 (by decide) ?_
    cases (show some _ = some _ from hk)
    exact we_i hx hb hr hlocks hP rfl hS dX7_partner_89 (by decide) (by decide)
  have lp1 : ∀ (n : Nat) (v2 : Int32) (v3 : Int32) (H : Heap) (locs : List Loc) (ls : Array Slot), f_X7_partner_L6 p0 M p2 n v2 v3 k1 = some (r) → wP Z (X, M, O) H → va_S (wA Z s.heap.size) s.heap H locs → lv_has ls 6 [(5, .int v2), (4, .int v3), (0, .ref (Z.2.2 26 0)), (1, .int p0), (3, .int p2)] → W p l e (headSpec ws_X7_partner rm_X7_partner).room s m args below meth c H locs 0 0 (vx_MQ below (cQi Z (X, M, O) (.inl r) s.heap.size) (cX Z (X, M, O) (.inl r : Int32 ⊕ String) s.heap.size) args s 0 0 (wA Z s.heap.size)) (F0 m 6 ls []) := by
    intro n
    induction n with
    | zero =>
      intro v2 v3 H locs ls hk
      rw [f_X7_partner_L6] at hk
      exact nomatch (show none = some _ from hk)
    | succ n ih =>
      intro v2 v3 H locs ls hk hP hS hl
      rw [f_X7_partner_L6] at hk
      refine lv_iload hx hb dX7_partner_6 (lv_at hl 0 rfl) ?_
      refine lv_iconst (v := (0 : Int32)) hx hb dX7_partner_8 (by decide) ?_
      refine lv_aload_n hx hb dX7_partner_9 rfl (lv_at hl 2 rfl) ?_
      refine gf_RX7_48 hx hb hts hown hK hP (by decide) dX7_partner_10 ?_
      refine lv_iload_n hx hb dX7_partner_13 rfl (lv_at hl 3 rfl) ?_
      obtain ⟨hg4, hk⟩ := gd_s hk
      refine wa_iaload_29 hx hb hK hP (by decide) hg4 dX7_partner_14 ?_
      refine lv_iconst (v := (1 : Int32)) hx hb dX7_partner_15 (by decide) ?_
      refine lv_isub hx hb dX7_partner_16 ?_
      obtain ⟨v5, hf6, hk⟩ := b0_s hk
      refine wc_iS0 (rest := []) (As := [.int v2, .int (0 : Int32), .int ((M.1 29 0 (p0).toNatClampNeg) - (1 : Int32))]) ⟨hx, hb, hml, hown, hts⟩ (fun sz => k_X7_in l hfl Z hZ X M O v2 (0 : Int32) ((M.1 29 0 (p0).toNatClampNeg) - (1 : Int32)) v5 hf6 sz) (cw_RX7_161 (args := args) (s := s) hts (Nat.le_of_ble_eq_true rfl) (Nat.le_of_ble_eq_true rfl)) hE hP hK hS  rfl hl.1 rfl (Nat.le_of_ble_eq_true rfl) dX7_partner_17 ⟨Nat.le_of_ble_eq_true rfl, Nat.le_of_ble_eq_true rfl⟩ (fun H locs hP hS => ?_)
      refine lv_if_eq (tgt := 88) hx hb dX7_partner_20 (by decide) (fun cz7 => ?_) (fun cz7 => ?_)
      · have hk := it_t cz7 hk
        exact ex1 _ _ _ hk hP hS (lv_sub hl [] rfl)
      · have hk := it_f cz7 hk
        refine lv_iload hx hb dX7_partner_23 (lv_at hl 1 rfl) ?_
        refine lv_aload_n hx hb dX7_partner_25 rfl (lv_at hl 2 rfl) ?_
        refine gf_RX7_40 hx hb hts hown hK hP (by decide) dX7_partner_26 ?_
        refine lv_bipush (v := (24 : Int32)) hx hb dX7_partner_29 (by decide) ?_
        refine lv_iload_n hx hb dX7_partner_31 rfl (lv_at hl 3 rfl) ?_
        refine lv_imul hx hb dX7_partner_32 ?_
        refine lv_iload hx hb dX7_partner_33 (lv_at hl 0 rfl) ?_
        refine lv_iadd hx hb dX7_partner_35 ?_
        obtain ⟨hg8, hk⟩ := gd_s hk
        refine wa_caload_27 hx hb hK hP (by decide) hg8 dX7_partner_36 ?_
        refine lv_bipush (v := (91 : Int32)) hx hb dX7_partner_37 (by decide) ?_
        have jn10 : ∀ (v9 : Int32) (H : Heap) (locs : List Loc) (ls : Array Slot), f_X7_partner_J68 (f_X7_partner_L6 p0 M p2 n) k1 v3 v2 p2 v9 = some (r) → wP Z (X, M, O) H → va_S (wA Z s.heap.size) s.heap H locs → lv_has ls 6 [(5, .int v2), (0, .ref (Z.2.2 26 0)), (1, .int p0), (3, .int p2)] → W p l e (headSpec ws_X7_partner rm_X7_partner).room s m args below meth c H locs 0 0 (vx_MQ below (cQi Z (X, M, O) (.inl r) s.heap.size) (cX Z (X, M, O) (.inl r : Int32 ⊕ String) s.heap.size) args s 0 0 (wA Z s.heap.size)) (F0 m 68 ls [.int v9, .int v3]) := by
          intro v9 H locs ls hk hP hS hl
          unfold f_X7_partner_J68 at hk
          refine lv_iadd hx hb dX7_partner_68 ?_
          obtain ⟨v11, ev11, hk⟩ := lq_s hk
          refine W.eq (g2 := F0 m 69 ls [.int v11]) (by rw [ev11]) ?_
          refine lv_istore (lv' := [(4, .int v11), (5, .int v2), (0, .ref (Z.2.2 26 0)), (1, .int p0), (3, .int p2)]) hx hb dX7_partner_69 hl (by decide) rfl (fun ls hl => ?_)
          refine lv_iload hx hb dX7_partner_71 (lv_at hl 0 rfl) ?_
          refine lv_if_ne (tgt := 79) hx hb dX7_partner_73 (by decide) (fun cz12 => ?_) (fun cz12 => ?_)
          · have hk := it_f cz12 hk
            refine lv_iload hx hb dX7_partner_79 (lv_at hl 1 rfl) ?_
            refine lv_iload_n hx hb dX7_partner_81 rfl (lv_at hl 4 rfl) ?_
            refine lv_iadd hx hb dX7_partner_82 ?_
            obtain ⟨v13, ev13, hk⟩ := lq_s hk
            refine W.eq (g2 := F0 m 83 ls [.int v13]) (by rw [ev13]) ?_
            refine lv_istore (lv' := [(5, .int v13), (4, .int v11), (0, .ref (Z.2.2 26 0)), (1, .int p0), (3, .int p2)]) hx hb dX7_partner_83 hl (by decide) rfl (fun ls hl => ?_)
            refine lv_goto (tgt := 6) hx hb dX7_partner_85 (by decide) ?_
            exact ih v13 v11 _ _ _ hk hP hS (lv_sub hl [0, 1, 2, 3, 4] rfl)
          · have hk := it_t cz12 hk
            refine lv_iload hx hb dX7_partner_76 (lv_at hl 1 rfl) ?_
            cases (show some _ = some _ from hk)
            exact we_i hx hb hr hlocks hP rfl hS dX7_partner_78 (by decide) (by decide)
        refine lv_icmp_ne (tgt := 46) hx hb dX7_partner_39 (by decide) (fun cz14 => ?_) (fun cz14 => ?_)
        · have hk := it_f cz14 hk
          refine lv_aload_n hx hb dX7_partner_46 rfl (lv_at hl 2 rfl) ?_
          refine gf_RX7_40 hx hb hts hown hK hP (by decide) dX7_partner_47 ?_
          refine lv_bipush (v := (24 : Int32)) hx hb dX7_partner_50 (by decide) ?_
          refine lv_iload_n hx hb dX7_partner_52 rfl (lv_at hl 3 rfl) ?_
          refine lv_imul hx hb dX7_partner_53 ?_
          refine lv_iload hx hb dX7_partner_54 (lv_at hl 0 rfl) ?_
          refine lv_iadd hx hb dX7_partner_56 ?_
          obtain ⟨hg15, hk⟩ := gd_s hk
          refine wa_caload_27 hx hb hK hP (by decide) hg15 dX7_partner_57 ?_
          refine lv_bipush (v := (93 : Int32)) hx hb dX7_partner_58 (by decide) ?_
          refine lv_icmp_ne (tgt := 67) hx hb dX7_partner_60 (by decide) (fun cz16 => ?_) (fun cz16 => ?_)
          · have hk := it_f cz16 hk
            refine lv_iconst (v := (0 : Int32)) hx hb dX7_partner_67 (by decide) ?_
            exact jn10 (0 : Int32) _ _ _ hk hP hS (lv_sub hl [0, 2, 3, 4] rfl)
          · have hk := it_t cz16 hk
            refine lv_iconst (v := ((-1) : Int32)) hx hb dX7_partner_63 (by decide) ?_
            refine lv_goto (tgt := 68) hx hb dX7_partner_64 (by decide) ?_
            exact jn10 ((-1) : Int32) _ _ _ hk hP hS (lv_sub hl [0, 2, 3, 4] rfl)
        · have hk := it_t cz14 hk
          refine lv_iconst (v := (1 : Int32)) hx hb dX7_partner_42 (by decide) ?_
          refine lv_goto (tgt := 68) hx hb dX7_partner_43 (by decide) ?_
          exact jn10 (1 : Int32) _ _ _ hk hP hS (lv_sub hl [0, 2, 3, 4] rfl)
  exact lp1 1000 p1 (0 : Int32) _ _ _ hk hP hS (lv_sub hl [0, 1, 2, 3, 5] rfl)
set_option maxHeartbeats 4000000 in
set_option maxRecDepth 100000 in
theorem k_X7_isWhole (l : Launch) (hfl : l.stackTraces = false) (Z : ZT) (hZ : wD Z) (X M O : SS) (p0 : Int32) (r : Int32) (hf : f_X7_isWhole M p0 = some (r)) (sz : Nat) : vx_Met l yX7_isWhole ws_X7_isWhole rm_X7_isWhole (va_Pc [.ref (Z.2.2 26 0), .int p0] (cP Z (X, M, O) sz)) (cQi Z (X, M, O) (.inl r) sz) (cX Z (X, M, O) (.inl r : Int32 ⊕ String) sz) 0 0 (wA Z sz) := by
  refine vx_ofW (cc := cX7_isWhole) (maxL := 5) (ret := (some .boolean)) (by decide) rfl ?_
  intro p e s m args below meth c s₁ B hml htab hv
  obtain ⟨hargs, hsz, hE, hP, hK⟩ := hv
  have hx := B.exec
  have hb := B.bytes
  have hr := B.returns
  have hts0 := atoms_spec (ws := ws_X7_isWhole) B.pre
  have hts : ∀ w ∈ lw_all, w.before args s = true := fun w h => hts0 w (List.mem_cons_of_mem _ h)
  have hown : s.vm.findClass RX7 = some m.cls := findClass_of_methodNamed B.named
  have hlocks := B.notSynchronized
  have hout9 : ∀ (pc9 : Nat), ∀ x ∈ c.exceptionTable.toList, covers x pc9 = false := fun _ x hx9 => (htab x hx9).elim
  subst hsz
  have hS : va_S (wA Z s.heap.size) s.heap s.heap [] := va_S.rf
  have hl := lv_entry ([.ref (Z.2.2 26 0), .int p0]) (n := 5) (Nat.le_of_ble_eq_true rfl)
  have hen : entryFrame m args 5 = entryFrame m ([.ref (Z.2.2 26 0), .int p0] : List Value).toArray 5 := by rw [hargs]
  rw [hen, lg_entry_eq]
  generalize (lg_sl ([.ref (Z.2.2 26 0), .int p0]) ++ List.replicate (5 - (lg_sl ([.ref (Z.2.2 26 0), .int p0])).length) Slot.unset).toArray = ls at hl ⊢
  have hl : lv_has ls 5 [(0, .ref (Z.2.2 26 0)), (1, .int p0)] := hl
  have hk := hf
  unfold f_X7_isWhole at hk
  refine lv_iconst (v := (0 : Int32)) hx hb dX7_isWhole_0 (by decide) ?_
  refine lv_istore_n (lv' := [(2, .int (0 : Int32)), (0, .ref (Z.2.2 26 0)), (1, .int p0)]) hx hb dX7_isWhole_1 rfl hl (by decide) rfl (fun ls hl => ?_)
  refine lv_iconst (v := (1 : Int32)) hx hb dX7_isWhole_2 (by decide) ?_
  refine lv_istore_n (lv' := [(3, .int (1 : Int32)), (2, .int (0 : Int32)), (0, .ref (Z.2.2 26 0)), (1, .int p0)]) hx hb dX7_isWhole_3 rfl hl (by decide) rfl (fun ls hl => ?_)
  refine lv_iconst (v := (0 : Int32)) hx hb dX7_isWhole_4 (by decide) ?_
  refine lv_istore (lv' := [(4, .int (0 : Int32)), (3, .int (1 : Int32)), (2, .int (0 : Int32)), (0, .ref (Z.2.2 26 0)), (1, .int p0)]) hx hb dX7_isWhole_5 hl (by decide) rfl (fun ls hl => ?_)
  obtain ⟨k1, hk1, hk⟩ := gn hk
  have ex1 : ∀ (v2 : Int32) (v3 : Int32) (H : Heap) (locs : List Loc) (ls : Array Slot), k1 v2 v3 = some (r) → wP Z (X, M, O) H → va_S (wA Z s.heap.size) s.heap H locs → lv_has ls 5 [(3, .int v2), (2, .int v3)] → W p l e (headSpec ws_X7_isWhole rm_X7_isWhole).room s m args below meth c H locs 0 0 (vx_MQ below (cQi Z (X, M, O) (.inl r) s.heap.size) (cX Z (X, M, O) (.inl r : Int32 ⊕ String) s.heap.size) args s 0 0 (wA Z s.heap.size)) (F0 m 84 ls []) := by
    intro v2 v3 H locs ls hk hP hS hl
    subst hk1
    refine lv_iload_n hx hb dX7_isWhole_84 rfl (lv_at hl 0 rfl) ?_
    refine lv_if_eq (tgt := 96) hx hb dX7_isWhole_85 (by decide) (fun cz7 => ?_) (fun cz7 => ?_)
    · have hk := it_t cz7 hk
      refine lv_iconst (v := (0 : Int32)) hx hb dX7_isWhole_96 (by decide) ?_
      cases (show some _ = some _ from hk)
      exact we_z hx hb hr hlocks (show okz (0 : Int32) by unfold okz; decide).1 hP rfl hS dX7_isWhole_97 (by decide) (by decide)
    · have hk := it_f cz7 hk
      refine lv_iload_n hx hb dX7_isWhole_88 rfl (lv_at hl 1 rfl) ?_
      refine lv_if_ne (tgt := 96) hx hb dX7_isWhole_89 (by decide) (fun cz8 => ?_) (fun cz8 => ?_)
      · have hk := it_f cz8 hk
        refine lv_iconst (v := (0 : Int32)) hx hb dX7_isWhole_96 (by decide) ?_
        cases (show some _ = some _ from hk)
        exact we_z hx hb hr hlocks (show okz (0 : Int32) by unfold okz; decide).1 hP rfl hS dX7_isWhole_97 (by decide) (by decide)
      · have hk := it_t cz8 hk
        refine lv_iconst (v := (1 : Int32)) hx hb dX7_isWhole_92 (by decide) ?_
        refine lv_goto (tgt := 97) hx hb dX7_isWhole_93 (by decide) ?_
        cases (show some _ = some _ from hk)
        exact we_z hx hb hr hlocks (show okz (1 : Int32) by unfold okz; decide).1 hP rfl hS dX7_isWhole_97 (by decide) (by decide)
  have lp1 : ∀ (n : Nat) (v4 : Int32) (v5 : Int32) (v6 : Int32) (H : Heap) (locs : List Loc) (ls : Array Slot), f_X7_isWhole_L7 p0 M n v4 v5 v6 k1 = some (r) → wP Z (X, M, O) H → va_S (wA Z s.heap.size) s.heap H locs → lv_has ls 5 [(4, .int v4), (3, .int v5), (2, .int v6), (0, .ref (Z.2.2 26 0)), (1, .int p0)] → W p l e (headSpec ws_X7_isWhole rm_X7_isWhole).room s m args below meth c H locs 0 0 (vx_MQ below (cQi Z (X, M, O) (.inl r) s.heap.size) (cX Z (X, M, O) (.inl r : Int32 ⊕ String) s.heap.size) args s 0 0 (wA Z s.heap.size)) (F0 m 7 ls []) := by
    intro n
    induction n with
    | zero =>
      intro v4 v5 v6 H locs ls hk
      rw [f_X7_isWhole_L7] at hk
      exact nomatch (show none = some _ from hk)
    | succ n ih =>
      intro v4 v5 v6 H locs ls hk hP hS hl
      rw [f_X7_isWhole_L7] at hk
      refine lv_iload hx hb dX7_isWhole_7 (lv_at hl 0 rfl) ?_
      refine lv_aload_n hx hb dX7_isWhole_9 rfl (lv_at hl 3 rfl) ?_
      refine gf_RX7_48 hx hb hts hown hK hP (by decide) dX7_isWhole_10 ?_
      refine lv_iload_n hx hb dX7_isWhole_13 rfl (lv_at hl 4 rfl) ?_
      obtain ⟨hg9, hk⟩ := gd_s hk
      refine wa_iaload_29 hx hb hK hP (by decide) hg9 dX7_isWhole_14 ?_
      refine lv_icmp_ge (tgt := 84) hx hb dX7_isWhole_15 (by decide) (fun cz10 => ?_) (fun cz10 => ?_)
      · have hk := it_t cz10 hk
        exact ex1 v5 v6 _ _ _ hk hP hS (lv_sub hl [1, 2] rfl)
      · have hk := it_f cz10 hk
        refine lv_iload_n hx hb dX7_isWhole_18 rfl (lv_at hl 2 rfl) ?_
        refine lv_aload_n hx hb dX7_isWhole_19 rfl (lv_at hl 3 rfl) ?_
        refine gf_RX7_40 hx hb hts hown hK hP (by decide) dX7_isWhole_20 ?_
        refine lv_bipush (v := (24 : Int32)) hx hb dX7_isWhole_23 (by decide) ?_
        refine lv_iload_n hx hb dX7_isWhole_25 rfl (lv_at hl 4 rfl) ?_
        refine lv_imul hx hb dX7_isWhole_26 ?_
        refine lv_iload hx hb dX7_isWhole_27 (lv_at hl 0 rfl) ?_
        refine lv_iadd hx hb dX7_isWhole_29 ?_
        obtain ⟨hg11, hk⟩ := gd_s hk
        refine wa_caload_27 hx hb hK hP (by decide) hg11 dX7_isWhole_30 ?_
        refine lv_bipush (v := (91 : Int32)) hx hb dX7_isWhole_31 (by decide) ?_
        have jn13 : ∀ (v12 : Int32) (H : Heap) (locs : List Loc) (ls : Array Slot), f_X7_isWhole_J62 (f_X7_isWhole_L7 p0 M n) k1 v6 v5 v4 v12 = some (r) → wP Z (X, M, O) H → va_S (wA Z s.heap.size) s.heap H locs → lv_has ls 5 [(4, .int v4), (3, .int v5), (0, .ref (Z.2.2 26 0)), (1, .int p0)] → W p l e (headSpec ws_X7_isWhole rm_X7_isWhole).room s m args below meth c H locs 0 0 (vx_MQ below (cQi Z (X, M, O) (.inl r) s.heap.size) (cX Z (X, M, O) (.inl r : Int32 ⊕ String) s.heap.size) args s 0 0 (wA Z s.heap.size)) (F0 m 62 ls [.int v12, .int v6]) := by
          intro v12 H locs ls hk hP hS hl
          unfold f_X7_isWhole_J62 at hk
          refine lv_iadd hx hb dX7_isWhole_62 ?_
          obtain ⟨v14, ev14, hk⟩ := lq_s hk
          refine W.eq (g2 := F0 m 63 ls [.int v14]) (by rw [ev14]) ?_
          refine lv_istore_n (lv' := [(2, .int v14), (4, .int v4), (3, .int v5), (0, .ref (Z.2.2 26 0)), (1, .int p0)]) hx hb dX7_isWhole_63 rfl hl (by decide) rfl (fun ls hl => ?_)
          refine lv_iload_n hx hb dX7_isWhole_64 rfl (lv_at hl 2 rfl) ?_
          refine lv_if_eq (tgt := 76) hx hb dX7_isWhole_65 (by decide) (fun cz15 => ?_) (fun cz15 => ?_)
          · have hk := it_t cz15 hk
            refine lv_iconst (v := (0 : Int32)) hx hb dX7_isWhole_76 (by decide) ?_
            refine lv_istore_n (lv' := [(3, .int (0 : Int32)), (2, .int v14), (4, .int v4), (0, .ref (Z.2.2 26 0)), (1, .int p0)]) hx hb dX7_isWhole_77 rfl hl (by decide) rfl (fun ls hl => ?_)
            refine lv_iinc (v := (v4 + (1 : Int32))) (lv' := [(4, .int (v4 + (1 : Int32))), (3, .int (0 : Int32)), (2, .int v14), (0, .ref (Z.2.2 26 0)), (1, .int p0)]) hx hb dX7_isWhole_78 hl (k := 2) rfl rfl (by decide) rfl (fun ls hl => ?_)
            refine lv_goto (tgt := 7) hx hb dX7_isWhole_81 (by decide) ?_
            exact ih (v4 + (1 : Int32)) (0 : Int32) v14 _ _ _ hk hP hS (lv_sub hl [0, 1, 2, 3, 4] rfl)
          · have hk := it_f cz15 hk
            refine lv_iload_n hx hb dX7_isWhole_68 rfl (lv_at hl 0 rfl) ?_
            refine lv_if_lt (tgt := 76) hx hb dX7_isWhole_69 (by decide) (fun cz16 => ?_) (fun cz16 => ?_)
            · have hk := it_t cz16 hk
              refine lv_iconst (v := (0 : Int32)) hx hb dX7_isWhole_76 (by decide) ?_
              refine lv_istore_n (lv' := [(3, .int (0 : Int32)), (2, .int v14), (4, .int v4), (0, .ref (Z.2.2 26 0)), (1, .int p0)]) hx hb dX7_isWhole_77 rfl hl (by decide) rfl (fun ls hl => ?_)
              refine lv_iinc (v := (v4 + (1 : Int32))) (lv' := [(4, .int (v4 + (1 : Int32))), (3, .int (0 : Int32)), (2, .int v14), (0, .ref (Z.2.2 26 0)), (1, .int p0)]) hx hb dX7_isWhole_78 hl (k := 2) rfl rfl (by decide) rfl (fun ls hl => ?_)
              refine lv_goto (tgt := 7) hx hb dX7_isWhole_81 (by decide) ?_
              exact ih (v4 + (1 : Int32)) (0 : Int32) v14 _ _ _ hk hP hS (lv_sub hl [0, 1, 2, 3, 4] rfl)
            · have hk := it_f cz16 hk
              refine lv_iconst (v := (1 : Int32)) hx hb dX7_isWhole_72 (by decide) ?_
              refine lv_goto (tgt := 77) hx hb dX7_isWhole_73 (by decide) ?_
              refine lv_istore_n (lv' := [(3, .int (1 : Int32)), (2, .int v14), (4, .int v4), (0, .ref (Z.2.2 26 0)), (1, .int p0)]) hx hb dX7_isWhole_77 rfl hl (by decide) rfl (fun ls hl => ?_)
              refine lv_iinc (v := (v4 + (1 : Int32))) (lv' := [(4, .int (v4 + (1 : Int32))), (3, .int (1 : Int32)), (2, .int v14), (0, .ref (Z.2.2 26 0)), (1, .int p0)]) hx hb dX7_isWhole_78 hl (k := 2) rfl rfl (by decide) rfl (fun ls hl => ?_)
              refine lv_goto (tgt := 7) hx hb dX7_isWhole_81 (by decide) ?_
              exact ih (v4 + (1 : Int32)) (1 : Int32) v14 _ _ _ hk hP hS (lv_sub hl [0, 1, 2, 3, 4] rfl)
        refine lv_icmp_ne (tgt := 40) hx hb dX7_isWhole_33 (by decide) (fun cz17 => ?_) (fun cz17 => ?_)
        · have hk := it_f cz17 hk
          refine lv_aload_n hx hb dX7_isWhole_40 rfl (lv_at hl 3 rfl) ?_
          refine gf_RX7_40 hx hb hts hown hK hP (by decide) dX7_isWhole_41 ?_
          refine lv_bipush (v := (24 : Int32)) hx hb dX7_isWhole_44 (by decide) ?_
          refine lv_iload_n hx hb dX7_isWhole_46 rfl (lv_at hl 4 rfl) ?_
          refine lv_imul hx hb dX7_isWhole_47 ?_
          refine lv_iload hx hb dX7_isWhole_48 (lv_at hl 0 rfl) ?_
          refine lv_iadd hx hb dX7_isWhole_50 ?_
          obtain ⟨hg18, hk⟩ := gd_s hk
          refine wa_caload_27 hx hb hK hP (by decide) hg18 dX7_isWhole_51 ?_
          refine lv_bipush (v := (93 : Int32)) hx hb dX7_isWhole_52 (by decide) ?_
          refine lv_icmp_ne (tgt := 61) hx hb dX7_isWhole_54 (by decide) (fun cz19 => ?_) (fun cz19 => ?_)
          · have hk := it_f cz19 hk
            refine lv_iconst (v := (0 : Int32)) hx hb dX7_isWhole_61 (by decide) ?_
            exact jn13 (0 : Int32) _ _ _ hk hP hS (lv_sub hl [0, 1, 3, 4] rfl)
          · have hk := it_t cz19 hk
            refine lv_iconst (v := ((-1) : Int32)) hx hb dX7_isWhole_57 (by decide) ?_
            refine lv_goto (tgt := 62) hx hb dX7_isWhole_58 (by decide) ?_
            exact jn13 ((-1) : Int32) _ _ _ hk hP hS (lv_sub hl [0, 1, 3, 4] rfl)
        · have hk := it_t cz17 hk
          refine lv_iconst (v := (1 : Int32)) hx hb dX7_isWhole_36 (by decide) ?_
          refine lv_goto (tgt := 62) hx hb dX7_isWhole_37 (by decide) ?_
          exact jn13 (1 : Int32) _ _ _ hk hP hS (lv_sub hl [0, 1, 3, 4] rfl)
  exact lp1 1000 (0 : Int32) (1 : Int32) (0 : Int32) _ _ _ hk hP hS (lv_sub hl [0, 1, 2, 3, 4] rfl)
set_option maxHeartbeats 4000000 in
set_option maxRecDepth 100000 in
theorem k_X7_needs (l : Launch) (hfl : l.stackTraces = false) (Z : ZT) (hZ : wD Z) (X M O : SS) (p0 : Int32) (r : Int32) (hf : f_X7_needs p0 = some (r)) (sz : Nat) : vx_Met l yX7_needs ws_X7_needs rm_X7_needs (va_Pc [.int p0] (cP Z (X, M, O) sz)) (cQi Z (X, M, O) (.inl r) sz) (cX Z (X, M, O) (.inl r : Int32 ⊕ String) sz) 0 0 (wA Z sz) := by
  refine vx_ofW (cc := cX7_needs) (maxL := 1) (ret := (some .int)) (by decide) rfl ?_
  intro p e s m args below meth c s₁ B hml htab hv
  obtain ⟨hargs, hsz, hE, hP, hK⟩ := hv
  have hx := B.exec
  have hb := B.bytes
  have hr := B.returns
  have hts0 := atoms_spec (ws := ws_X7_needs) B.pre
  have hts : ∀ w ∈ lw_all, w.before args s = true := fun w h => hts0 w (List.mem_cons_of_mem _ h)
  have hown : s.vm.findClass RX7 = some m.cls := findClass_of_methodNamed B.named
  have hlocks := B.notSynchronized
  have hout9 : ∀ (pc9 : Nat), ∀ x ∈ c.exceptionTable.toList, covers x pc9 = false := fun _ x hx9 => (htab x hx9).elim
  subst hsz
  have hS : va_S (wA Z s.heap.size) s.heap s.heap [] := va_S.rf
  have hl := lv_entry ([.int p0]) (n := 1) (Nat.le_of_ble_eq_true rfl)
  have hen : entryFrame m args 1 = entryFrame m ([.int p0] : List Value).toArray 1 := by rw [hargs]
  rw [hen, lg_entry_eq]
  generalize (lg_sl ([.int p0]) ++ List.replicate (1 - (lg_sl ([.int p0])).length) Slot.unset).toArray = ls at hl ⊢
  have hl : lv_has ls 1 [(0, .int p0)] := hl
  have hk := hf
  unfold f_X7_needs at hk
  refine lv_iload_n hx hb dX7_needs_0 rfl (lv_at hl 0 rfl) ?_
  refine lv_bipush (v := (43 : Int32)) hx hb dX7_needs_1 (by decide) ?_
  refine lv_bipush (v := (45 : Int32)) hx hb dX7_needs_3 (by decide) ?_
  refine lv_bipush (v := (42 : Int32)) hx hb dX7_needs_5 (by decide) ?_
  refine lv_bipush (v := (37 : Int32)) hx hb dX7_needs_7 (by decide) ?_
  obtain ⟨v1, hf2, hk⟩ := b0_s hk
  refine wc_iS0 (rest := []) (As := [.int p0, .int (43 : Int32), .int (45 : Int32), .int (42 : Int32), .int (37 : Int32)]) ⟨hx, hb, hml, hown, hts⟩ (fun sz => k_X7_isOneOf l hfl Z hZ X M O p0 (43 : Int32) (45 : Int32) (42 : Int32) (37 : Int32) v1 hf2 sz) (cw_RX7_153 (args := args) (s := s) hts (Nat.le_of_ble_eq_true rfl) (Nat.le_of_ble_eq_true rfl)) hE hP hK hS  rfl hl.1 rfl (Nat.le_of_ble_eq_true rfl) dX7_needs_9 ⟨Nat.le_of_ble_eq_true rfl, Nat.le_of_ble_eq_true rfl⟩ (fun H locs hP hS => ?_)
  refine lv_if_ne (tgt := 21) hx hb dX7_needs_12 (by decide) (fun cz3 => ?_) (fun cz3 => ?_)
  · have hk := it_f cz3 hk
    refine lv_iconst (v := (2 : Int32)) hx hb dX7_needs_21 (by decide) ?_
    refine lv_goto (tgt := 42) hx hb dX7_needs_22 (by decide) ?_
    cases (show some _ = some _ from hk)
    exact we_i hx hb hr hlocks hP rfl hS dX7_needs_42 (by decide) (by decide)
  · have hk := it_t cz3 hk
    refine lv_iload_n hx hb dX7_needs_15 rfl (lv_at hl 0 rfl) ?_
    refine lv_bipush (v := (115 : Int32)) hx hb dX7_needs_16 (by decide) ?_
    refine lv_icmp_ne (tgt := 25) hx hb dX7_needs_18 (by decide) (fun cz4 => ?_) (fun cz4 => ?_)
    · have hk := it_f cz4 hk
      refine lv_iload_n hx hb dX7_needs_25 rfl (lv_at hl 0 rfl) ?_
      refine lv_bipush (v := (110 : Int32)) hx hb dX7_needs_26 (by decide) ?_
      refine lv_icmp_eq (tgt := 37) hx hb dX7_needs_28 (by decide) (fun cz5 => ?_) (fun cz5 => ?_)
      · have hk := it_t cz5 hk
        refine lv_iconst (v := (0 : Int32)) hx hb dX7_needs_37 (by decide) ?_
        refine lv_goto (tgt := 42) hx hb dX7_needs_38 (by decide) ?_
        cases (show some _ = some _ from hk)
        exact we_i hx hb hr hlocks hP rfl hS dX7_needs_42 (by decide) (by decide)
      · have hk := it_f cz5 hk
        refine lv_iload_n hx hb dX7_needs_31 rfl (lv_at hl 0 rfl) ?_
        refine lv_bipush (v := (105 : Int32)) hx hb dX7_needs_32 (by decide) ?_
        refine lv_icmp_ne (tgt := 41) hx hb dX7_needs_34 (by decide) (fun cz6 => ?_) (fun cz6 => ?_)
        · have hk := it_f cz6 hk
          refine lv_iconst (v := (1 : Int32)) hx hb dX7_needs_41 (by decide) ?_
          cases (show some _ = some _ from hk)
          exact we_i hx hb hr hlocks hP rfl hS dX7_needs_42 (by decide) (by decide)
        · have hk := it_t cz6 hk
          refine lv_iconst (v := (0 : Int32)) hx hb dX7_needs_37 (by decide) ?_
          refine lv_goto (tgt := 42) hx hb dX7_needs_38 (by decide) ?_
          cases (show some _ = some _ from hk)
          exact we_i hx hb hr hlocks hP rfl hS dX7_needs_42 (by decide) (by decide)
    · have hk := it_t cz4 hk
      refine lv_iconst (v := (2 : Int32)) hx hb dX7_needs_21 (by decide) ?_
      refine lv_goto (tgt := 42) hx hb dX7_needs_22 (by decide) ?_
      cases (show some _ = some _ from hk)
      exact we_i hx hb hr hlocks hP rfl hS dX7_needs_42 (by decide) (by decide)
set_option maxHeartbeats 4000000 in
set_option maxRecDepth 100000 in
theorem k_X7_changes (l : Launch) (hfl : l.stackTraces = false) (Z : ZT) (hZ : wD Z) (X M O : SS) (p0 : Int32) (Mz : SS) (r : Unit) (hf : f_X7_changes M p0 = some (Mz, r)) (sz : Nat) : vx_Met l yX7_changes ws_X7_changes rm_X7_changes (va_Pc [.ref (Z.2.2 26 0), .int p0] (cP Z (X, M, O) sz)) (cQv Z (X, Mz, O) (.inl ()) sz) (cX Z (X, Mz, O) (.inl () : Unit ⊕ String) sz) 0 0 (wA Z sz) := by
  refine vx_ofW (cc := cX7_changes) (maxL := 4) (ret := none) (by decide) rfl ?_
  intro p e s m args below meth c s₁ B hml htab hv
  obtain ⟨hargs, hsz, hE, hP, hK⟩ := hv
  have hx := B.exec
  have hb := B.bytes
  have hr := B.returns
  have hts0 := atoms_spec (ws := ws_X7_changes) B.pre
  have hts : ∀ w ∈ lw_all, w.before args s = true := fun w h => hts0 w (List.mem_cons_of_mem _ h)
  have hown : s.vm.findClass RX7 = some m.cls := findClass_of_methodNamed B.named
  have hlocks := B.notSynchronized
  have hout9 : ∀ (pc9 : Nat), ∀ x ∈ c.exceptionTable.toList, covers x pc9 = false := fun _ x hx9 => (htab x hx9).elim
  subst hsz
  have hS : va_S (wA Z s.heap.size) s.heap s.heap [] := va_S.rf
  have hl := lv_entry ([.ref (Z.2.2 26 0), .int p0]) (n := 4) (Nat.le_of_ble_eq_true rfl)
  have hen : entryFrame m args 4 = entryFrame m ([.ref (Z.2.2 26 0), .int p0] : List Value).toArray 4 := by rw [hargs]
  rw [hen, lg_entry_eq]
  generalize (lg_sl ([.ref (Z.2.2 26 0), .int p0]) ++ List.replicate (4 - (lg_sl ([.ref (Z.2.2 26 0), .int p0])).length) Slot.unset).toArray = ls at hl ⊢
  have hl : lv_has ls 4 [(0, .ref (Z.2.2 26 0)), (1, .int p0)] := hl
  have hk := hf
  unfold f_X7_changes at hk
  refine lv_aload_n hx hb dX7_changes_0 rfl (lv_at hl 0 rfl) ?_
  refine gf_RX7_122 hx hb hts hown hK hP (by decide) dX7_changes_1 ?_
  refine lv_aload_n hx hb dX7_changes_4 rfl (lv_at hl 0 rfl) ?_
  refine gf_RX7_128 hx hb hts hown hK hP (by decide) dX7_changes_5 ?_
  refine lv_iconst (v := (1 : Int32)) hx hb dX7_changes_8 (by decide) ?_
  refine lv_isub hx hb dX7_changes_9 ?_
  obtain ⟨hg1, hk⟩ := gd_s hk
  refine wa_iaload_53 hx hb hK hP (by decide) hg1 dX7_changes_10 ?_
  obtain ⟨v2, ev2, hk⟩ := lq_s hk
  refine W.eq (g2 := F0 m 11 ls [.int v2]) (by rw [ev2]) ?_
  refine lv_istore_n (lv' := [(2, .int v2), (0, .ref (Z.2.2 26 0)), (1, .int p0)]) hx hb dX7_changes_11 rfl hl (by decide) rfl (fun ls hl => ?_)
  refine lv_iload_n hx hb dX7_changes_12 rfl (lv_at hl 2 rfl) ?_
  refine lv_bipush (v := (112 : Int32)) hx hb dX7_changes_13 (by decide) ?_
  have jn3 : ∀ (H : Heap) (locs : List Loc) (ls : Array Slot), f_X7_changes_J24 M p0 v2  = some (Mz, r) → wP Z (X, M, O) H → va_S (wA Z s.heap.size) s.heap H locs → lv_has ls 4 [(2, .int v2), (0, .ref (Z.2.2 26 0)), (1, .int p0)] → W p l e (headSpec ws_X7_changes rm_X7_changes).room s m args below meth c H locs 0 0 (vx_MQ below (cQv Z (X, Mz, O) (.inl ()) s.heap.size) (cX Z (X, Mz, O) (.inl () : Unit ⊕ String) s.heap.size) args s 0 0 (wA Z s.heap.size)) (F0 m 24 ls []) := by
    intro  H locs ls hk hP hS hl
    unfold f_X7_changes_J24 at hk
    refine lv_aload_n hx hb dX7_changes_24 rfl (lv_at hl 1 rfl) ?_
    refine lv_dup hx hb dX7_changes_25 rfl ?_
    refine gf_RX7_128 hx hb hts hown hK hP (by decide) dX7_changes_26 ?_
    refine lv_iconst (v := (1 : Int32)) hx hb dX7_changes_29 (by decide) ?_
    refine lv_isub hx hb dX7_changes_30 ?_
    obtain ⟨M4, eM4, hk⟩ := lq_s hk
    refine pf_RX7_128 hx hb hts hown hZ hK hP hS (by decide) dX7_changes_31 (fun H locs hP hS => ?_)
    rw [← eM4] at hP
    refine lv_iload_n hx hb dX7_changes_34 rfl (lv_at hl 2 rfl) ?_
    refine lv_bipush (v := (111 : Int32)) hx hb dX7_changes_35 (by decide) ?_
    refine lv_icmp_ne (tgt := 60) hx hb dX7_changes_37 (by decide) (fun cz5 => ?_) (fun cz5 => ?_)
    · have hk := it_f cz5 hk
      cases (show some _ = some _ from hk)
      exact we_v hx hb hr hlocks hP rfl hS dX7_changes_60 (by decide) (by decide)
    · have hk := it_t cz5 hk
      refine lv_aload_n hx hb dX7_changes_40 rfl (lv_at hl 1 rfl) ?_
      refine gf_RX7_125 hx hb hts hown hK hP (by decide) dX7_changes_41 ?_
      refine lv_aload_n hx hb dX7_changes_44 rfl (lv_at hl 1 rfl) ?_
      refine gf_RX7_131 hx hb hts hown hK hP (by decide) dX7_changes_45 ?_
      refine lv_iload_n hx hb dX7_changes_48 rfl (lv_at hl 0 rfl) ?_
      obtain ⟨hg6, hk⟩ := gd_s hk
      obtain ⟨M7, eM7, hk⟩ := lq_s hk
      refine wa_iastore_54 hx hb hZ hK hP hS (by decide) hg6 dX7_changes_49 (fun H locs hP hS => ?_)
      rw [← eM7] at hP
      refine lv_aload_n hx hb dX7_changes_50 rfl (lv_at hl 1 rfl) ?_
      refine lv_dup hx hb dX7_changes_51 rfl ?_
      refine gf_RX7_131 hx hb hts hown hK hP (by decide) dX7_changes_52 ?_
      refine lv_iconst (v := (1 : Int32)) hx hb dX7_changes_55 (by decide) ?_
      refine lv_iadd hx hb dX7_changes_56 ?_
      obtain ⟨M8, eM8, hk⟩ := lq_s hk
      refine pf_RX7_131 hx hb hts hown hZ hK hP hS (by decide) dX7_changes_57 (fun H locs hP hS => ?_)
      rw [← eM8] at hP
      cases (show some _ = some _ from hk)
      exact we_v hx hb hr hlocks hP rfl hS dX7_changes_60 (by decide) (by decide)
  refine lv_icmp_eq (tgt := 24) hx hb dX7_changes_15 (by decide) (fun cz9 => ?_) (fun cz9 => ?_)
  · have hk := it_t cz9 hk
    exact jn3 _ _ _ hk hP hS (lv_sub hl [0, 1, 2] rfl)
  · have hk := it_f cz9 hk
    refine lv_iload_n hx hb dX7_changes_18 rfl (lv_at hl 2 rfl) ?_
    refine lv_bipush (v := (111 : Int32)) hx hb dX7_changes_19 (by decide) ?_
    refine lv_icmp_ne (tgt := 61) hx hb dX7_changes_21 (by decide) (fun cz10 => ?_) (fun cz10 => ?_)
    · have hk := it_f cz10 hk
      refine lv_aload_n hx hb dX7_changes_61 rfl (lv_at hl 1 rfl) ?_
      refine gf_RX7_122 hx hb hts hown hK hP (by decide) dX7_changes_62 ?_
      refine lv_aload_n hx hb dX7_changes_65 rfl (lv_at hl 1 rfl) ?_
      refine gf_RX7_128 hx hb hts hown hK hP (by decide) dX7_changes_66 ?_
      refine lv_iconst (v := (2 : Int32)) hx hb dX7_changes_69 (by decide) ?_
      refine lv_isub hx hb dX7_changes_70 ?_
      obtain ⟨hg11, hk⟩ := gd_s hk
      refine wa_iaload_53 hx hb hK hP (by decide) hg11 dX7_changes_71 ?_
      obtain ⟨v12, ev12, hk⟩ := lq_s hk
      refine W.eq (g2 := F0 m 72 ls [.int v12]) (by rw [ev12]) ?_
      refine lv_istore_n (lv' := [(3, .int v12), (2, .int v2), (0, .ref (Z.2.2 26 0)), (1, .int p0)]) hx hb dX7_changes_72 rfl hl (by decide) rfl (fun ls hl => ?_)
      refine lv_iload_n hx hb dX7_changes_73 rfl (lv_at hl 3 rfl) ?_
      refine lv_bipush (v := (115 : Int32)) hx hb dX7_changes_74 (by decide) ?_
      refine lv_icmp_ne (tgt := 104) hx hb dX7_changes_76 (by decide) (fun cz13 => ?_) (fun cz13 => ?_)
      · have hk := it_f cz13 hk
        refine lv_aload_n hx hb dX7_changes_104 rfl (lv_at hl 2 rfl) ?_
        refine lv_dup hx hb dX7_changes_105 rfl ?_
        refine gf_RX7_128 hx hb hts hown hK hP (by decide) dX7_changes_106 ?_
        refine lv_iconst (v := (1 : Int32)) hx hb dX7_changes_109 (by decide) ?_
        refine lv_isub hx hb dX7_changes_110 ?_
        obtain ⟨M14, eM14, hk⟩ := lq_s hk
        refine pf_RX7_128 hx hb hts hown hZ hK hP hS (by decide) dX7_changes_111 (fun H locs hP hS => ?_)
        rw [← eM14] at hP
        refine lv_aload_n hx hb dX7_changes_114 rfl (lv_at hl 2 rfl) ?_
        refine gf_RX7_122 hx hb hts hown hK hP (by decide) dX7_changes_115 ?_
        refine lv_aload_n hx hb dX7_changes_118 rfl (lv_at hl 2 rfl) ?_
        refine gf_RX7_128 hx hb hts hown hK hP (by decide) dX7_changes_119 ?_
        refine lv_iconst (v := (1 : Int32)) hx hb dX7_changes_122 (by decide) ?_
        refine lv_isub hx hb dX7_changes_123 ?_
        refine lv_iload_n hx hb dX7_changes_124 rfl (lv_at hl 3 rfl) ?_
        refine lv_bipush (v := (43 : Int32)) hx hb dX7_changes_125 (by decide) ?_
        refine lv_icmp_ne (tgt := 136) hx hb dX7_changes_127 (by decide) (fun cz15 => ?_) (fun cz15 => ?_)
        · have hk := it_f cz15 hk
          refine lv_iload_n hx hb dX7_changes_136 rfl (lv_at hl 3 rfl) ?_
          refine lv_bipush (v := (45 : Int32)) hx hb dX7_changes_137 (by decide) ?_
          refine lv_icmp_ne (tgt := 148) hx hb dX7_changes_139 (by decide) (fun cz16 => ?_) (fun cz16 => ?_)
          · have hk := it_f cz16 hk
            refine lv_iload_n hx hb dX7_changes_148 rfl (lv_at hl 3 rfl) ?_
            refine lv_bipush (v := (42 : Int32)) hx hb dX7_changes_149 (by decide) ?_
            refine lv_icmp_ne (tgt := 160) hx hb dX7_changes_151 (by decide) (fun cz17 => ?_) (fun cz17 => ?_)
            · have hk := it_f cz17 hk
              refine lv_iload_n hx hb dX7_changes_160 rfl (lv_at hl 0 rfl) ?_
              refine lv_iload_n hx hb dX7_changes_161 rfl (lv_at hl 1 rfl) ?_
              obtain ⟨hg18, hk⟩ := gd_s hk
              refine lv_irem hx hb dX7_changes_162 hg18 ?_
              obtain ⟨hg19, hk⟩ := gd_s hk
              obtain ⟨M20, eM20, hk⟩ := lq_s hk
              refine wa_iastore_53 hx hb hZ hK hP hS (by decide) hg19 dX7_changes_163 (fun H locs hP hS => ?_)
              rw [← eM20] at hP
              cases (show some _ = some _ from hk)
              exact we_v hx hb hr hlocks hP rfl hS dX7_changes_164 (by decide) (by decide)
            · have hk := it_t cz17 hk
              refine lv_iload_n hx hb dX7_changes_154 rfl (lv_at hl 0 rfl) ?_
              refine lv_iload_n hx hb dX7_changes_155 rfl (lv_at hl 1 rfl) ?_
              refine lv_imul hx hb dX7_changes_156 ?_
              refine lv_goto (tgt := 163) hx hb dX7_changes_157 (by decide) ?_
              obtain ⟨hg21, hk⟩ := gd_s hk
              obtain ⟨M22, eM22, hk⟩ := lq_s hk
              refine wa_iastore_53 hx hb hZ hK hP hS (by decide) hg21 dX7_changes_163 (fun H locs hP hS => ?_)
              rw [← eM22] at hP
              cases (show some _ = some _ from hk)
              exact we_v hx hb hr hlocks hP rfl hS dX7_changes_164 (by decide) (by decide)
          · have hk := it_t cz16 hk
            refine lv_iload_n hx hb dX7_changes_142 rfl (lv_at hl 0 rfl) ?_
            refine lv_iload_n hx hb dX7_changes_143 rfl (lv_at hl 1 rfl) ?_
            refine lv_isub hx hb dX7_changes_144 ?_
            refine lv_goto (tgt := 163) hx hb dX7_changes_145 (by decide) ?_
            obtain ⟨hg23, hk⟩ := gd_s hk
            obtain ⟨M24, eM24, hk⟩ := lq_s hk
            refine wa_iastore_53 hx hb hZ hK hP hS (by decide) hg23 dX7_changes_163 (fun H locs hP hS => ?_)
            rw [← eM24] at hP
            cases (show some _ = some _ from hk)
            exact we_v hx hb hr hlocks hP rfl hS dX7_changes_164 (by decide) (by decide)
        · have hk := it_t cz15 hk
          refine lv_iload_n hx hb dX7_changes_130 rfl (lv_at hl 0 rfl) ?_
          refine lv_iload_n hx hb dX7_changes_131 rfl (lv_at hl 1 rfl) ?_
          refine lv_iadd hx hb dX7_changes_132 ?_
          refine lv_goto (tgt := 163) hx hb dX7_changes_133 (by decide) ?_
          obtain ⟨hg25, hk⟩ := gd_s hk
          obtain ⟨M26, eM26, hk⟩ := lq_s hk
          refine wa_iastore_53 hx hb hZ hK hP hS (by decide) hg25 dX7_changes_163 (fun H locs hP hS => ?_)
          rw [← eM26] at hP
          cases (show some _ = some _ from hk)
          exact we_v hx hb hr hlocks hP rfl hS dX7_changes_164 (by decide) (by decide)
      · have hk := it_t cz13 hk
        refine lv_aload_n hx hb dX7_changes_79 rfl (lv_at hl 2 rfl) ?_
        refine gf_RX7_122 hx hb hts hown hK hP (by decide) dX7_changes_80 ?_
        refine lv_aload_n hx hb dX7_changes_83 rfl (lv_at hl 2 rfl) ?_
        refine gf_RX7_128 hx hb hts hown hK hP (by decide) dX7_changes_84 ?_
        refine lv_iconst (v := (1 : Int32)) hx hb dX7_changes_87 (by decide) ?_
        refine lv_isub hx hb dX7_changes_88 ?_
        refine lv_iload_n hx hb dX7_changes_89 rfl (lv_at hl 0 rfl) ?_
        obtain ⟨hg27, hk⟩ := gd_s hk
        obtain ⟨M28, eM28, hk⟩ := lq_s hk
        refine wa_iastore_53 hx hb hZ hK hP hS (by decide) hg27 dX7_changes_90 (fun H locs hP hS => ?_)
        rw [← eM28] at hP
        refine lv_aload_n hx hb dX7_changes_91 rfl (lv_at hl 2 rfl) ?_
        refine gf_RX7_122 hx hb hts hown hK hP (by decide) dX7_changes_92 ?_
        refine lv_aload_n hx hb dX7_changes_95 rfl (lv_at hl 2 rfl) ?_
        refine gf_RX7_128 hx hb hts hown hK hP (by decide) dX7_changes_96 ?_
        refine lv_iconst (v := (2 : Int32)) hx hb dX7_changes_99 (by decide) ?_
        refine lv_isub hx hb dX7_changes_100 ?_
        refine lv_iload_n hx hb dX7_changes_101 rfl (lv_at hl 1 rfl) ?_
        obtain ⟨hg29, hk⟩ := gd_s hk
        obtain ⟨M30, eM30, hk⟩ := lq_s hk
        refine wa_iastore_53 hx hb hZ hK hP hS (by decide) hg29 dX7_changes_102 (fun H locs hP hS => ?_)
        rw [← eM30] at hP
        cases (show some _ = some _ from hk)
        exact we_v hx hb hr hlocks hP rfl hS dX7_changes_103 (by decide) (by decide)
    · have hk := it_t cz10 hk
      exact jn3 _ _ _ hk hP hS (lv_sub hl [0, 1, 2] rfl)
set_option maxHeartbeats 4000000 in
set_option maxRecDepth 100000 in
theorem k_X7_runs (l : Launch) (hfl : l.stackTraces = false) (Z : ZT) (hZ : wD Z) (X M O : SS) (p0 : Int32) (p1 : Int32) (Mz : SS) (r : Int32) (hf : f_X7_runs M p0 p1 = some (Mz, r)) (sz : Nat) : vx_Met l yX7_runs ws_X7_runs rm_X7_runs (va_Pc [.ref (Z.2.2 26 0), .int p0, .int p1] (cP Z (X, M, O) sz)) (cQi Z (X, Mz, O) (.inl r) sz) (cX Z (X, Mz, O) (.inl r : Int32 ⊕ String) sz) 0 0 (wA Z sz) := by
  refine vx_ofW (cc := cX7_runs) (maxL := 7) (ret := (some .char)) (by decide) rfl ?_
  intro p e s m args below meth c s₁ B hml htab hv
  obtain ⟨hargs, hsz, hE, hP, hK⟩ := hv
  have hx := B.exec
  have hb := B.bytes
  have hr := B.returns
  have hts0 := atoms_spec (ws := ws_X7_runs) B.pre
  have hts : ∀ w ∈ lw_all, w.before args s = true := fun w h => hts0 w (List.mem_cons_of_mem _ h)
  have hown : s.vm.findClass RX7 = some m.cls := findClass_of_methodNamed B.named
  have hlocks := B.notSynchronized
  have hout9 : ∀ (pc9 : Nat), ∀ x ∈ c.exceptionTable.toList, covers x pc9 = false := fun _ x hx9 => (htab x hx9).elim
  subst hsz
  have hS : va_S (wA Z s.heap.size) s.heap s.heap [] := va_S.rf
  have hl := lv_entry ([.ref (Z.2.2 26 0), .int p0, .int p1]) (n := 7) (Nat.le_of_ble_eq_true rfl)
  have hen : entryFrame m args 7 = entryFrame m ([.ref (Z.2.2 26 0), .int p0, .int p1] : List Value).toArray 7 := by rw [hargs]
  rw [hen, lg_entry_eq]
  generalize (lg_sl ([.ref (Z.2.2 26 0), .int p0, .int p1]) ++ List.replicate (7 - (lg_sl ([.ref (Z.2.2 26 0), .int p0, .int p1])).length) Slot.unset).toArray = ls at hl ⊢
  have hl : lv_has ls 7 [(0, .ref (Z.2.2 26 0)), (1, .int p0), (2, .int p1)] := hl
  have hk := hf
  unfold f_X7_runs at hk
  refine lv_aload_n hx hb dX7_runs_0 rfl (lv_at hl 0 rfl) ?_
  refine lv_iconst (v := (0 : Int32)) hx hb dX7_runs_1 (by decide) ?_
  obtain ⟨M1, eM1, hk⟩ := lq_s hk
  refine pf_RX7_128 hx hb hts hown hZ hK hP hS (by decide) dX7_runs_2 (fun H locs hP hS => ?_)
  rw [← eM1] at hP
  refine lv_aload_n hx hb dX7_runs_5 rfl (lv_at hl 0 rfl) ?_
  refine lv_iconst (v := (0 : Int32)) hx hb dX7_runs_6 (by decide) ?_
  obtain ⟨M2, eM2, hk⟩ := lq_s hk
  refine pf_RX7_131 hx hb hts hown hZ hK hP hS (by decide) dX7_runs_7 (fun H locs hP hS => ?_)
  rw [← eM2] at hP
  refine lv_aload_n hx hb dX7_runs_10 rfl (lv_at hl 0 rfl) ?_
  refine lv_iconst (v := (0 : Int32)) hx hb dX7_runs_11 (by decide) ?_
  obtain ⟨M3, eM3, hk⟩ := lq_s hk
  refine pf_RX7_134 hx hb hts hown hZ hK hP hS (by decide) dX7_runs_12 (fun H locs hP hS => ?_)
  rw [← eM3] at hP
  refine lv_iconst (v := (0 : Int32)) hx hb dX7_runs_15 (by decide) ?_
  refine lv_istore_n (lv' := [(3, .int (0 : Int32)), (0, .ref (Z.2.2 26 0)), (1, .int p0), (2, .int p1)]) hx hb dX7_runs_16 rfl hl (by decide) rfl (fun ls hl => ?_)
  refine lv_iconst (v := (0 : Int32)) hx hb dX7_runs_17 (by decide) ?_
  refine lv_istore (lv' := [(4, .int (0 : Int32)), (3, .int (0 : Int32)), (0, .ref (Z.2.2 26 0)), (1, .int p0), (2, .int p1)]) hx hb dX7_runs_18 hl (by decide) rfl (fun ls hl => ?_)
  obtain ⟨k4, hk4, hk⟩ := gn hk
  have ex4 : ∀ (M5 : SS) (H : Heap) (locs : List Loc) (ls : Array Slot), k4 M5 = some (Mz, r) → wP Z (X, M5, O) H → va_S (wA Z s.heap.size) s.heap H locs → lv_has ls 7 [(0, .ref (Z.2.2 26 0)), (2, .int p1)] → W p l e (headSpec ws_X7_runs rm_X7_runs).room s m args below meth c H locs 0 0 (vx_MQ below (cQi Z (X, Mz, O) (.inl r) s.heap.size) (cX Z (X, Mz, O) (.inl r : Int32 ⊕ String) s.heap.size) args s 0 0 (wA Z s.heap.size)) (F0 m 376 ls []) := by
    intro M5 H locs ls hk hP hS hl
    subst hk4
    refine lv_aload_n hx hb dX7_runs_376 rfl (lv_at hl 0 rfl) ?_
    refine gf_RX7_131 hx hb hts hown hK hP (by decide) dX7_runs_377 ?_
    refine lv_aload_n hx hb dX7_runs_380 rfl (lv_at hl 0 rfl) ?_
    refine gf_RX7_66 hx hb hts hown hK hP (by decide) dX7_runs_381 ?_
    refine lv_iload_n hx hb dX7_runs_384 rfl (lv_at hl 1 rfl) ?_
    obtain ⟨hg9, hk⟩ := gd_s hk
    refine wa_iaload_35 hx hb hK hP (by decide) hg9 dX7_runs_385 ?_
    have jn11 : ∀ (v10 : Int32) (H : Heap) (locs : List Loc) (ls : Array Slot), f_X7_runs_J394 M5 p1 v10 = some (Mz, r) → wP Z (X, M5, O) H → va_S (wA Z s.heap.size) s.heap H locs → lv_has ls 7 [(0, .ref (Z.2.2 26 0)), (2, .int p1)] → W p l e (headSpec ws_X7_runs rm_X7_runs).room s m args below meth c H locs 0 0 (vx_MQ below (cQi Z (X, Mz, O) (.inl r) s.heap.size) (cX Z (X, Mz, O) (.inl r : Int32 ⊕ String) s.heap.size) args s 0 0 (wA Z s.heap.size)) (F0 m 394 ls [.int v10]) := by
      intro v10 H locs ls hk hP hS hl
      unfold f_X7_runs_J394 at hk
      refine lv_istore (lv' := [(5, .int v10), (0, .ref (Z.2.2 26 0)), (2, .int p1)]) hx hb dX7_runs_394 hl (by decide) rfl (fun ls hl => ?_)
      refine lv_iconst (v := (0 : Int32)) hx hb dX7_runs_396 (by decide) ?_
      refine lv_istore (lv' := [(6, .int (0 : Int32)), (5, .int v10), (0, .ref (Z.2.2 26 0)), (2, .int p1)]) hx hb dX7_runs_397 hl (by decide) rfl (fun ls hl => ?_)
      obtain ⟨k12, hk12, hk⟩ := gn hk
      have ex12 : ∀ (v13 : Int32) (H : Heap) (locs : List Loc) (ls : Array Slot), k12 v13 = some (Mz, r) → wP Z (X, M5, O) H → va_S (wA Z s.heap.size) s.heap H locs → lv_has ls 7 [(5, .int v13)] → W p l e (headSpec ws_X7_runs rm_X7_runs).room s m args below meth c H locs 0 0 (vx_MQ below (cQi Z (X, Mz, O) (.inl r) s.heap.size) (cX Z (X, Mz, O) (.inl r : Int32 ⊕ String) s.heap.size) args s 0 0 (wA Z s.heap.size)) (F0 m 448 ls []) := by
        intro v13 H locs ls hk hP hS hl
        subst hk12
        refine lv_iload hx hb dX7_runs_448 (lv_at hl 0 rfl) ?_
        refine lv_if_eq (tgt := 458) hx hb dX7_runs_450 (by decide) (fun cz16 => ?_) (fun cz16 => ?_)
        · have hk := it_t cz16 hk
          refine lv_bipush (v := (119 : Int32)) hx hb dX7_runs_458 (by decide) ?_
          cases (show some _ = some _ from hk)
          exact we_z hx hb hr hlocks (show okc (119 : Int32) by unfold okc; decide).1 hP rfl hS dX7_runs_460 (by decide) (by decide)
        · have hk := it_f cz16 hk
          refine lv_bipush (v := (111 : Int32)) hx hb dX7_runs_453 (by decide) ?_
          refine lv_goto (tgt := 460) hx hb dX7_runs_455 (by decide) ?_
          cases (show some _ = some _ from hk)
          exact we_z hx hb hr hlocks (show okc (111 : Int32) by unfold okc; decide).1 hP rfl hS dX7_runs_460 (by decide) (by decide)
      have lp12 : ∀ (n : Nat) (v14 : Int32) (v15 : Int32) (H : Heap) (locs : List Loc) (ls : Array Slot), f_X7_runs_L399 M5 p1 n v14 v15 k12 = some (Mz, r) → wP Z (X, M5, O) H → va_S (wA Z s.heap.size) s.heap H locs → lv_has ls 7 [(6, .int v14), (5, .int v15), (0, .ref (Z.2.2 26 0)), (2, .int p1)] → W p l e (headSpec ws_X7_runs rm_X7_runs).room s m args below meth c H locs 0 0 (vx_MQ below (cQi Z (X, Mz, O) (.inl r) s.heap.size) (cX Z (X, Mz, O) (.inl r : Int32 ⊕ String) s.heap.size) args s 0 0 (wA Z s.heap.size)) (F0 m 399 ls []) := by
        intro n
        induction n with
        | zero =>
          intro v14 v15 H locs ls hk
          rw [f_X7_runs_L399] at hk
          exact nomatch (show none = some _ from hk)
        | succ n ih =>
          intro v14 v15 H locs ls hk hP hS hl
          rw [f_X7_runs_L399] at hk
          refine lv_iload hx hb dX7_runs_399 (lv_at hl 0 rfl) ?_
          refine lv_aload_n hx hb dX7_runs_401 rfl (lv_at hl 2 rfl) ?_
          refine gf_RX7_131 hx hb hts hown hK hP (by decide) dX7_runs_402 ?_
          refine lv_icmp_ge (tgt := 448) hx hb dX7_runs_405 (by decide) (fun cz17 => ?_) (fun cz17 => ?_)
          · have hk := it_t cz17 hk
            exact ex12 v15 _ _ _ hk hP hS (lv_sub hl [1] rfl)
          · have hk := it_f cz17 hk
            refine lv_iload hx hb dX7_runs_408 (lv_at hl 1 rfl) ?_
            refine lv_if_eq (tgt := 448) hx hb dX7_runs_410 (by decide) (fun cz18 => ?_) (fun cz18 => ?_)
            · have hk := it_t cz18 hk
              exact ex12 v15 _ _ _ hk hP hS (lv_sub hl [1] rfl)
            · have hk := it_f cz18 hk
              refine lv_aload_n hx hb dX7_runs_413 rfl (lv_at hl 2 rfl) ?_
              refine gf_RX7_125 hx hb hts hown hK hP (by decide) dX7_runs_414 ?_
              refine lv_iload hx hb dX7_runs_417 (lv_at hl 0 rfl) ?_
              obtain ⟨hg19, hk⟩ := gd_s hk
              refine wa_iaload_54 hx hb hK hP (by decide) hg19 dX7_runs_419 ?_
              refine lv_aload_n hx hb dX7_runs_420 rfl (lv_at hl 2 rfl) ?_
              refine gf_RX7_72 hx hb hts hown hK hP (by decide) dX7_runs_421 ?_
              refine lv_bipush (v := (6 : Int32)) hx hb dX7_runs_424 (by decide) ?_
              refine lv_iload_n hx hb dX7_runs_426 rfl (lv_at hl 3 rfl) ?_
              refine lv_imul hx hb dX7_runs_427 ?_
              refine lv_iload hx hb dX7_runs_428 (lv_at hl 0 rfl) ?_
              refine lv_iadd hx hb dX7_runs_430 ?_
              obtain ⟨hg20, hk⟩ := gd_s hk
              refine wa_iaload_37 hx hb hK hP (by decide) hg20 dX7_runs_431 ?_
              refine lv_icmp_ne (tgt := 439) hx hb dX7_runs_432 (by decide) (fun cz21 => ?_) (fun cz21 => ?_)
              · have hk := it_f cz21 hk
                refine lv_iconst (v := (0 : Int32)) hx hb dX7_runs_439 (by decide) ?_
                refine lv_istore (lv' := [(5, .int (0 : Int32)), (6, .int v14), (0, .ref (Z.2.2 26 0)), (2, .int p1)]) hx hb dX7_runs_440 hl (by decide) rfl (fun ls hl => ?_)
                refine lv_iinc (v := (v14 + (1 : Int32))) (lv' := [(6, .int (v14 + (1 : Int32))), (5, .int (0 : Int32)), (0, .ref (Z.2.2 26 0)), (2, .int p1)]) hx hb dX7_runs_442 hl (k := 1) rfl rfl (by decide) rfl (fun ls hl => ?_)
                refine lv_goto (tgt := 399) hx hb dX7_runs_445 (by decide) ?_
                exact ih (v14 + (1 : Int32)) (0 : Int32) _ _ _ hk hP hS (lv_sub hl [0, 1, 2, 3] rfl)
              · have hk := it_t cz21 hk
                refine lv_iconst (v := (1 : Int32)) hx hb dX7_runs_435 (by decide) ?_
                refine lv_goto (tgt := 440) hx hb dX7_runs_436 (by decide) ?_
                refine lv_istore (lv' := [(5, .int (1 : Int32)), (6, .int v14), (0, .ref (Z.2.2 26 0)), (2, .int p1)]) hx hb dX7_runs_440 hl (by decide) rfl (fun ls hl => ?_)
                refine lv_iinc (v := (v14 + (1 : Int32))) (lv' := [(6, .int (v14 + (1 : Int32))), (5, .int (1 : Int32)), (0, .ref (Z.2.2 26 0)), (2, .int p1)]) hx hb dX7_runs_442 hl (k := 1) rfl rfl (by decide) rfl (fun ls hl => ?_)
                refine lv_goto (tgt := 399) hx hb dX7_runs_445 (by decide) ?_
                exact ih (v14 + (1 : Int32)) (1 : Int32) _ _ _ hk hP hS (lv_sub hl [0, 1, 2, 3] rfl)
      exact lp12 1000 (0 : Int32) v10 _ _ _ hk hP hS (lv_sub hl [0, 1, 2, 3] rfl)
    refine lv_icmp_ne (tgt := 393) hx hb dX7_runs_386 (by decide) (fun cz22 => ?_) (fun cz22 => ?_)
    · have hk := it_f cz22 hk
      refine lv_iconst (v := (0 : Int32)) hx hb dX7_runs_393 (by decide) ?_
      exact jn11 (0 : Int32) _ _ _ hk hP hS (lv_sub hl [0, 1] rfl)
    · have hk := it_t cz22 hk
      refine lv_iconst (v := (1 : Int32)) hx hb dX7_runs_389 (by decide) ?_
      refine lv_goto (tgt := 394) hx hb dX7_runs_390 (by decide) ?_
      exact jn11 (1 : Int32) _ _ _ hk hP hS (lv_sub hl [0, 1] rfl)
  have lp4 : ∀ (n : Nat) (v6 : Int32) (v7 : Int32) (M8 : SS) (H : Heap) (locs : List Loc) (ls : Array Slot), f_X7_runs_L20 p0 p1 n v6 v7 M8 k4 = some (Mz, r) → wP Z (X, M8, O) H → va_S (wA Z s.heap.size) s.heap H locs → lv_has ls 7 [(4, .int v6), (3, .int v7), (0, .ref (Z.2.2 26 0)), (1, .int p0), (2, .int p1)] → W p l e (headSpec ws_X7_runs rm_X7_runs).room s m args below meth c H locs 0 0 (vx_MQ below (cQi Z (X, Mz, O) (.inl r) s.heap.size) (cX Z (X, Mz, O) (.inl r : Int32 ⊕ String) s.heap.size) args s 0 0 (wA Z s.heap.size)) (F0 m 20 ls []) := by
    intro n
    induction n with
    | zero =>
      intro v6 v7 M8 H locs ls hk
      rw [f_X7_runs_L20] at hk
      exact nomatch (show none = some _ from hk)
    | succ n ih =>
      intro v6 v7 M8 H locs ls hk hP hS hl
      rw [f_X7_runs_L20] at hk
      refine lv_iload hx hb dX7_runs_20 (lv_at hl 0 rfl) ?_
      refine lv_aload_n hx hb dX7_runs_22 rfl (lv_at hl 2 rfl) ?_
      refine gf_RX7_48 hx hb hts hown hK hP (by decide) dX7_runs_23 ?_
      refine lv_iload_n hx hb dX7_runs_26 rfl (lv_at hl 3 rfl) ?_
      obtain ⟨hg23, hk⟩ := gd_s hk
      refine wa_iaload_29 hx hb hK hP (by decide) hg23 dX7_runs_27 ?_
      refine lv_icmp_ge (tgt := 376) hx hb dX7_runs_28 (by decide) (fun cz24 => ?_) (fun cz24 => ?_)
      · have hk := it_t cz24 hk
        exact ex4 M8 _ _ _ hk hP hS (lv_sub hl [2, 4] rfl)
      · have hk := it_f cz24 hk
        refine lv_aload_n hx hb dX7_runs_31 rfl (lv_at hl 2 rfl) ?_
        refine gf_RX7_40 hx hb hts hown hK hP (by decide) dX7_runs_32 ?_
        refine lv_bipush (v := (24 : Int32)) hx hb dX7_runs_35 (by decide) ?_
        refine lv_iload_n hx hb dX7_runs_37 rfl (lv_at hl 3 rfl) ?_
        refine lv_imul hx hb dX7_runs_38 ?_
        refine lv_iload hx hb dX7_runs_39 (lv_at hl 0 rfl) ?_
        refine lv_iadd hx hb dX7_runs_41 ?_
        obtain ⟨hg25, hk⟩ := gd_s hk
        refine wa_caload_27 hx hb hK hP (by decide) hg25 dX7_runs_42 ?_
        obtain ⟨v26, ev26, hk⟩ := lq_s hk
        refine W.eq (g2 := F0 m 43 ls [.int v26]) (by rw [ev26]) ?_
        refine lv_istore (lv' := [(5, .int v26), (4, .int v6), (3, .int v7), (0, .ref (Z.2.2 26 0)), (1, .int p0), (2, .int p1)]) hx hb dX7_runs_43 hl (by decide) rfl (fun ls hl => ?_)
        refine lv_iload hx hb dX7_runs_45 (lv_at hl 0 rfl) ?_
        refine lv_bipush (v := (110 : Int32)) hx hb dX7_runs_47 (by decide) ?_
        have jn28 : ∀ (v27 : Int32) (H : Heap) (locs : List Loc) (ls : Array Slot), f_X7_runs_J71 (f_X7_runs_L20 p0 p1 n) k4 M8 v26 p1 v7 p0 v6 v27 = some (Mz, r) → wP Z (X, M8, O) H → va_S (wA Z s.heap.size) s.heap H locs → lv_has ls 7 [(5, .int v26), (4, .int v6), (3, .int v7), (0, .ref (Z.2.2 26 0)), (1, .int p0), (2, .int p1)] → W p l e (headSpec ws_X7_runs rm_X7_runs).room s m args below meth c H locs 0 0 (vx_MQ below (cQi Z (X, Mz, O) (.inl r) s.heap.size) (cX Z (X, Mz, O) (.inl r : Int32 ⊕ String) s.heap.size) args s 0 0 (wA Z s.heap.size)) (F0 m 71 ls [.int v27]) := by
          intro v27 H locs ls hk hP hS hl
          unfold f_X7_runs_J71 at hk
          refine lv_istore (lv' := [(6, .int v27), (5, .int v26), (4, .int v6), (3, .int v7), (0, .ref (Z.2.2 26 0)), (1, .int p0), (2, .int p1)]) hx hb dX7_runs_71 hl (by decide) rfl (fun ls hl => ?_)
          refine lv_aload_n hx hb dX7_runs_73 rfl (lv_at hl 4 rfl) ?_
          refine gf_RX7_134 hx hb hts hown hK hP (by decide) dX7_runs_74 ?_
          refine lv_sipush (v := (300 : Int32)) hx hb dX7_runs_77 (by decide) ?_
          refine lv_icmp_ne (tgt := 86) hx hb dX7_runs_80 (by decide) (fun cz29 => ?_) (fun cz29 => ?_)
          · have hk := it_f cz29 hk
            refine lv_aload_n hx hb dX7_runs_86 rfl (lv_at hl 4 rfl) ?_
            refine gf_RX7_128 hx hb hts hown hK hP (by decide) dX7_runs_87 ?_
            refine lv_iload hx hb dX7_runs_90 (lv_at hl 1 rfl) ?_
            obtain ⟨v30, hf31, hk⟩ := b0_s hk
            refine wc_iS0 (rest := [.int (M8.1 26 0 38)]) (As := [.int v26]) ⟨hx, hb, hml, hown, hts⟩ (fun sz => k_X7_needs l hfl Z hZ X M8 O v26 v30 hf31 sz) (cw_RX7_176 (args := args) (s := s) hts (Nat.le_of_ble_eq_true rfl) (Nat.le_of_ble_eq_true rfl)) hE hP hK hS  rfl hl.1 rfl (Nat.le_of_ble_eq_true rfl) dX7_runs_92 ⟨Nat.le_of_ble_eq_true rfl, Nat.le_of_ble_eq_true rfl⟩ (fun H locs hP hS => ?_)
            refine lv_icmp_ge (tgt := 101) hx hb dX7_runs_95 (by decide) (fun cz32 => ?_) (fun cz32 => ?_)
            · have hk := it_t cz32 hk
              refine lv_iload hx hb dX7_runs_101 (lv_at hl 1 rfl) ?_
              refine lv_bipush (v := (105 : Int32)) hx hb dX7_runs_103 (by decide) ?_
              have jn33 : ∀ (H : Heap) (locs : List Loc) (ls : Array Slot), f_X7_runs_J121 (f_X7_runs_L20 p0 p1 n) k4 v26 M8 v27 p0 v6 v7 p1  = some (Mz, r) → wP Z (X, M8, O) H → va_S (wA Z s.heap.size) s.heap H locs → lv_has ls 7 [(6, .int v27), (5, .int v26), (4, .int v6), (3, .int v7), (0, .ref (Z.2.2 26 0)), (1, .int p0), (2, .int p1)] → W p l e (headSpec ws_X7_runs rm_X7_runs).room s m args below meth c H locs 0 0 (vx_MQ below (cQi Z (X, Mz, O) (.inl r) s.heap.size) (cX Z (X, Mz, O) (.inl r : Int32 ⊕ String) s.heap.size) args s 0 0 (wA Z s.heap.size)) (F0 m 121 ls []) := by
                intro  H locs ls hk hP hS hl
                unfold f_X7_runs_J121 at hk
                refine lv_iload hx hb dX7_runs_121 (lv_at hl 1 rfl) ?_
                refine lv_bipush (v := (37 : Int32)) hx hb dX7_runs_123 (by decide) ?_
                have jn34 : ∀ (H : Heap) (locs : List Loc) (ls : Array Slot), f_X7_runs_J145 (f_X7_runs_L20 p0 p1 n) k4 v27 v26 M8 p0 v6 v7 p1  = some (Mz, r) → wP Z (X, M8, O) H → va_S (wA Z s.heap.size) s.heap H locs → lv_has ls 7 [(6, .int v27), (5, .int v26), (4, .int v6), (3, .int v7), (0, .ref (Z.2.2 26 0)), (1, .int p0), (2, .int p1)] → W p l e (headSpec ws_X7_runs rm_X7_runs).room s m args below meth c H locs 0 0 (vx_MQ below (cQi Z (X, Mz, O) (.inl r) s.heap.size) (cX Z (X, Mz, O) (.inl r : Int32 ⊕ String) s.heap.size) args s 0 0 (wA Z s.heap.size)) (F0 m 145 ls []) := by
                  intro  H locs ls hk hP hS hl
                  unfold f_X7_runs_J145 at hk
                  refine lv_iload hx hb dX7_runs_145 (lv_at hl 0 rfl) ?_
                  have jn35 : ∀ (H : Heap) (locs : List Loc) (ls : Array Slot), f_X7_runs_J162 (f_X7_runs_L20 p0 p1 n) k4 v26 M8 v27 p0 v6 v7 p1  = some (Mz, r) → wP Z (X, M8, O) H → va_S (wA Z s.heap.size) s.heap H locs → lv_has ls 7 [(6, .int v27), (5, .int v26), (4, .int v6), (3, .int v7), (0, .ref (Z.2.2 26 0)), (1, .int p0), (2, .int p1)] → W p l e (headSpec ws_X7_runs rm_X7_runs).room s m args below meth c H locs 0 0 (vx_MQ below (cQi Z (X, Mz, O) (.inl r) s.heap.size) (cX Z (X, Mz, O) (.inl r : Int32 ⊕ String) s.heap.size) args s 0 0 (wA Z s.heap.size)) (F0 m 162 ls []) := by
                    intro  H locs ls hk hP hS hl
                    unfold f_X7_runs_J162 at hk
                    refine lv_iload hx hb dX7_runs_162 (lv_at hl 1 rfl) ?_
                    refine lv_bipush (v := (111 : Int32)) hx hb dX7_runs_164 (by decide) ?_
                    have jn36 : ∀ (H : Heap) (locs : List Loc) (ls : Array Slot), f_X7_runs_J181 (f_X7_runs_L20 p0 p1 n) k4 M8 v27 v26 p0 v6 v7 p1  = some (Mz, r) → wP Z (X, M8, O) H → va_S (wA Z s.heap.size) s.heap H locs → lv_has ls 7 [(6, .int v27), (5, .int v26), (4, .int v6), (3, .int v7), (0, .ref (Z.2.2 26 0)), (1, .int p0), (2, .int p1)] → W p l e (headSpec ws_X7_runs rm_X7_runs).room s m args below meth c H locs 0 0 (vx_MQ below (cQi Z (X, Mz, O) (.inl r) s.heap.size) (cX Z (X, Mz, O) (.inl r : Int32 ⊕ String) s.heap.size) args s 0 0 (wA Z s.heap.size)) (F0 m 181 ls []) := by
                      intro  H locs ls hk hP hS hl
                      unfold f_X7_runs_J181 at hk
                      refine lv_aload_n hx hb dX7_runs_181 rfl (lv_at hl 4 rfl) ?_
                      refine lv_dup hx hb dX7_runs_182 rfl ?_
                      refine gf_RX7_134 hx hb hts hown hK hP (by decide) dX7_runs_183 ?_
                      refine lv_iconst (v := (1 : Int32)) hx hb dX7_runs_186 (by decide) ?_
                      refine lv_iadd hx hb dX7_runs_187 ?_
                      obtain ⟨M37, eM37, hk⟩ := lq_s hk
                      refine pf_RX7_134 hx hb hts hown hZ hK hP hS (by decide) dX7_runs_188 (fun H locs hP hS => ?_)
                      rw [← eM37] at hP
                      refine lv_iload hx hb dX7_runs_191 (lv_at hl 0 rfl) ?_
                      refine lv_if_eq (tgt := 286) hx hb dX7_runs_193 (by decide) (fun cz38 => ?_) (fun cz38 => ?_)
                      · have hk := it_t cz38 hk
                        refine lv_iload hx hb dX7_runs_286 (lv_at hl 1 rfl) ?_
                        refine lv_bipush (v := (91 : Int32)) hx hb dX7_runs_288 (by decide) ?_
                        refine lv_icmp_ne (tgt := 325) hx hb dX7_runs_290 (by decide) (fun cz39 => ?_) (fun cz39 => ?_)
                        · have hk := it_f cz39 hk
                          refine lv_iload hx hb dX7_runs_325 (lv_at hl 1 rfl) ?_
                          refine lv_bipush (v := (93 : Int32)) hx hb dX7_runs_327 (by decide) ?_
                          refine lv_icmp_ne (tgt := 364) hx hb dX7_runs_329 (by decide) (fun cz40 => ?_) (fun cz40 => ?_)
                          · have hk := it_f cz40 hk
                            refine lv_aload_n hx hb dX7_runs_364 rfl (lv_at hl 4 rfl) ?_
                            refine lv_iload hx hb dX7_runs_365 (lv_at hl 1 rfl) ?_
                            obtain ⟨M42, v41, hf43, hk⟩ := b1_s hk
                            refine wc_vV0 (rest := []) (As := [.int v26]) ⟨hx, hb, hml, hown, hts⟩ (fun sz => k_X7_changes l hfl Z hZ X M37 O v26 M42 v41 hf43 sz) (cw_RX7_184 (args := args) (s := s) hts (Nat.le_of_ble_eq_true rfl) (Nat.le_of_ble_eq_true rfl)) hE hP hK hS (rv_26 hK hP (by decide)) rfl hl.1 rfl (Nat.le_of_ble_eq_true rfl) dX7_runs_367 ⟨Nat.le_of_ble_eq_true rfl, Nat.le_of_ble_eq_true rfl⟩ (fun H locs hP hS => ?_)
                            refine lv_iinc (v := (v6 + (1 : Int32))) (lv' := [(4, .int (v6 + (1 : Int32))), (6, .int v27), (5, .int v26), (3, .int v7), (0, .ref (Z.2.2 26 0)), (1, .int p0), (2, .int p1)]) hx hb dX7_runs_370 hl (k := 2) rfl rfl (by decide) rfl (fun ls hl => ?_)
                            refine lv_goto (tgt := 20) hx hb dX7_runs_373 (by decide) ?_
                            exact ih (v6 + (1 : Int32)) v7 M42 _ _ _ hk hP hS (lv_sub hl [0, 3, 4, 5, 6] rfl)
                          · have hk := it_t cz40 hk
                            refine lv_aload_n hx hb dX7_runs_332 rfl (lv_at hl 4 rfl) ?_
                            refine gf_RX7_122 hx hb hts hown hK hP (by decide) dX7_runs_333 ?_
                            refine lv_aload_n hx hb dX7_runs_336 rfl (lv_at hl 4 rfl) ?_
                            refine gf_RX7_128 hx hb hts hown hK hP (by decide) dX7_runs_337 ?_
                            refine lv_iconst (v := (1 : Int32)) hx hb dX7_runs_340 (by decide) ?_
                            refine lv_isub hx hb dX7_runs_341 ?_
                            obtain ⟨hg44, hk⟩ := gd_s hk
                            refine wa_iaload_53 hx hb hK hP (by decide) hg44 dX7_runs_342 ?_
                            refine lv_if_eq (tgt := 357) hx hb dX7_runs_343 (by decide) (fun cz45 => ?_) (fun cz45 => ?_)
                            · have hk := it_t cz45 hk
                              refine lv_iload hx hb dX7_runs_357 (lv_at hl 2 rfl) ?_
                              refine lv_istore (lv' := [(4, .int v6), (6, .int v27), (5, .int v26), (3, .int v7), (0, .ref (Z.2.2 26 0)), (1, .int p0), (2, .int p1)]) hx hb dX7_runs_359 hl (by decide) rfl (fun ls hl => ?_)
                              refine lv_goto (tgt := 370) hx hb dX7_runs_361 (by decide) ?_
                              refine lv_iinc (v := (v6 + (1 : Int32))) (lv' := [(4, .int (v6 + (1 : Int32))), (6, .int v27), (5, .int v26), (3, .int v7), (0, .ref (Z.2.2 26 0)), (1, .int p0), (2, .int p1)]) hx hb dX7_runs_370 hl (k := 0) rfl rfl (by decide) rfl (fun ls hl => ?_)
                              refine lv_goto (tgt := 20) hx hb dX7_runs_373 (by decide) ?_
                              exact ih (v6 + (1 : Int32)) v7 M37 _ _ _ hk hP hS (lv_sub hl [0, 3, 4, 5, 6] rfl)
                            · have hk := it_f cz45 hk
                              refine lv_aload_n hx hb dX7_runs_346 rfl (lv_at hl 4 rfl) ?_
                              refine lv_iload_n hx hb dX7_runs_347 rfl (lv_at hl 5 rfl) ?_
                              refine lv_iload hx hb dX7_runs_348 (lv_at hl 2 rfl) ?_
                              refine lv_iconst (v := ((-1) : Int32)) hx hb dX7_runs_350 (by decide) ?_
                              obtain ⟨v46, hf47, hk⟩ := b0_s hk
                              refine wc_iV0 (rest := []) (As := [.int p0, .int v6, .int ((-1) : Int32)]) ⟨hx, hb, hml, hown, hts⟩ (fun sz => k_X7_partner l hfl Z hZ X M37 O p0 v6 ((-1) : Int32) v46 hf47 sz) (cw_RX7_180 (args := args) (s := s) hts (Nat.le_of_ble_eq_true rfl) (Nat.le_of_ble_eq_true rfl)) hE hP hK hS (rv_26 hK hP (by decide)) rfl hl.1 rfl (Nat.le_of_ble_eq_true rfl) dX7_runs_351 ⟨Nat.le_of_ble_eq_true rfl, Nat.le_of_ble_eq_true rfl⟩ (fun H locs hP hS => ?_)
                              refine lv_goto (tgt := 359) hx hb dX7_runs_354 (by decide) ?_
                              refine lv_istore (lv' := [(4, .int v46), (6, .int v27), (5, .int v26), (3, .int v7), (0, .ref (Z.2.2 26 0)), (1, .int p0), (2, .int p1)]) hx hb dX7_runs_359 hl (by decide) rfl (fun ls hl => ?_)
                              refine lv_goto (tgt := 370) hx hb dX7_runs_361 (by decide) ?_
                              refine lv_iinc (v := (v46 + (1 : Int32))) (lv' := [(4, .int (v46 + (1 : Int32))), (6, .int v27), (5, .int v26), (3, .int v7), (0, .ref (Z.2.2 26 0)), (1, .int p0), (2, .int p1)]) hx hb dX7_runs_370 hl (k := 0) rfl rfl (by decide) rfl (fun ls hl => ?_)
                              refine lv_goto (tgt := 20) hx hb dX7_runs_373 (by decide) ?_
                              exact ih (v46 + (1 : Int32)) v7 M37 _ _ _ hk hP hS (lv_sub hl [0, 3, 4, 5, 6] rfl)
                        · have hk := it_t cz39 hk
                          refine lv_aload_n hx hb dX7_runs_293 rfl (lv_at hl 4 rfl) ?_
                          refine gf_RX7_122 hx hb hts hown hK hP (by decide) dX7_runs_294 ?_
                          refine lv_aload_n hx hb dX7_runs_297 rfl (lv_at hl 4 rfl) ?_
                          refine gf_RX7_128 hx hb hts hown hK hP (by decide) dX7_runs_298 ?_
                          refine lv_iconst (v := (1 : Int32)) hx hb dX7_runs_301 (by decide) ?_
                          refine lv_isub hx hb dX7_runs_302 ?_
                          obtain ⟨hg48, hk⟩ := gd_s hk
                          refine wa_iaload_53 hx hb hK hP (by decide) hg48 dX7_runs_303 ?_
                          refine lv_if_ne (tgt := 318) hx hb dX7_runs_304 (by decide) (fun cz49 => ?_) (fun cz49 => ?_)
                          · have hk := it_f cz49 hk
                            refine lv_iload hx hb dX7_runs_318 (lv_at hl 2 rfl) ?_
                            refine lv_istore (lv' := [(4, .int v6), (6, .int v27), (5, .int v26), (3, .int v7), (0, .ref (Z.2.2 26 0)), (1, .int p0), (2, .int p1)]) hx hb dX7_runs_320 hl (by decide) rfl (fun ls hl => ?_)
                            refine lv_goto (tgt := 370) hx hb dX7_runs_322 (by decide) ?_
                            refine lv_iinc (v := (v6 + (1 : Int32))) (lv' := [(4, .int (v6 + (1 : Int32))), (6, .int v27), (5, .int v26), (3, .int v7), (0, .ref (Z.2.2 26 0)), (1, .int p0), (2, .int p1)]) hx hb dX7_runs_370 hl (k := 0) rfl rfl (by decide) rfl (fun ls hl => ?_)
                            refine lv_goto (tgt := 20) hx hb dX7_runs_373 (by decide) ?_
                            exact ih (v6 + (1 : Int32)) v7 M37 _ _ _ hk hP hS (lv_sub hl [0, 3, 4, 5, 6] rfl)
                          · have hk := it_t cz49 hk
                            refine lv_aload_n hx hb dX7_runs_307 rfl (lv_at hl 4 rfl) ?_
                            refine lv_iload_n hx hb dX7_runs_308 rfl (lv_at hl 5 rfl) ?_
                            refine lv_iload hx hb dX7_runs_309 (lv_at hl 2 rfl) ?_
                            refine lv_iconst (v := (1 : Int32)) hx hb dX7_runs_311 (by decide) ?_
                            obtain ⟨v50, hf51, hk⟩ := b0_s hk
                            refine wc_iV0 (rest := []) (As := [.int p0, .int v6, .int (1 : Int32)]) ⟨hx, hb, hml, hown, hts⟩ (fun sz => k_X7_partner l hfl Z hZ X M37 O p0 v6 (1 : Int32) v50 hf51 sz) (cw_RX7_180 (args := args) (s := s) hts (Nat.le_of_ble_eq_true rfl) (Nat.le_of_ble_eq_true rfl)) hE hP hK hS (rv_26 hK hP (by decide)) rfl hl.1 rfl (Nat.le_of_ble_eq_true rfl) dX7_runs_312 ⟨Nat.le_of_ble_eq_true rfl, Nat.le_of_ble_eq_true rfl⟩ (fun H locs hP hS => ?_)
                            refine lv_goto (tgt := 320) hx hb dX7_runs_315 (by decide) ?_
                            refine lv_istore (lv' := [(4, .int v50), (6, .int v27), (5, .int v26), (3, .int v7), (0, .ref (Z.2.2 26 0)), (1, .int p0), (2, .int p1)]) hx hb dX7_runs_320 hl (by decide) rfl (fun ls hl => ?_)
                            refine lv_goto (tgt := 370) hx hb dX7_runs_322 (by decide) ?_
                            refine lv_iinc (v := (v50 + (1 : Int32))) (lv' := [(4, .int (v50 + (1 : Int32))), (6, .int v27), (5, .int v26), (3, .int v7), (0, .ref (Z.2.2 26 0)), (1, .int p0), (2, .int p1)]) hx hb dX7_runs_370 hl (k := 0) rfl rfl (by decide) rfl (fun ls hl => ?_)
                            refine lv_goto (tgt := 20) hx hb dX7_runs_373 (by decide) ?_
                            exact ih (v50 + (1 : Int32)) v7 M37 _ _ _ hk hP hS (lv_sub hl [0, 3, 4, 5, 6] rfl)
                      · have hk := it_f cz38 hk
                        refine lv_aload_n hx hb dX7_runs_196 rfl (lv_at hl 4 rfl) ?_
                        refine gf_RX7_122 hx hb hts hown hK hP (by decide) dX7_runs_197 ?_
                        refine lv_aload_n hx hb dX7_runs_200 rfl (lv_at hl 4 rfl) ?_
                        refine gf_RX7_128 hx hb hts hown hK hP (by decide) dX7_runs_201 ?_
                        refine lv_iload hx hb dX7_runs_204 (lv_at hl 1 rfl) ?_
                        refine lv_bipush (v := (110 : Int32)) hx hb dX7_runs_206 (by decide) ?_
                        have jn53 : ∀ (v52 : Int32) (H : Heap) (locs : List Loc) (ls : Array Slot), f_X7_runs_J257 (f_X7_runs_L20 p0 p1 n) k4 M37 v26 v7 v6 v52 = some (Mz, r) → wP Z (X, M37, O) H → va_S (wA Z s.heap.size) s.heap H locs → lv_has ls 7 [(5, .int v26), (4, .int v6), (3, .int v7), (0, .ref (Z.2.2 26 0)), (1, .int p0), (2, .int p1)] → W p l e (headSpec ws_X7_runs rm_X7_runs).room s m args below meth c H locs 0 0 (vx_MQ below (cQi Z (X, Mz, O) (.inl r) s.heap.size) (cX Z (X, Mz, O) (.inl r : Int32 ⊕ String) s.heap.size) args s 0 0 (wA Z s.heap.size)) (F0 m 257 ls [.int v52, .int (M37.1 26 0 38), .ref (Z.2.2 53 0)]) := by
                          intro v52 H locs ls hk hP hS hl
                          unfold f_X7_runs_J257 at hk
                          obtain ⟨hg54, hk⟩ := gd_s hk
                          obtain ⟨M55, eM55, hk⟩ := lq_s hk
                          refine wa_iastore_53 hx hb hZ hK hP hS (by decide) hg54 dX7_runs_257 (fun H locs hP hS => ?_)
                          rw [← eM55] at hP
                          refine lv_iload_n hx hb dX7_runs_258 rfl (lv_at hl 2 rfl) ?_
                          refine lv_iload hx hb dX7_runs_259 (lv_at hl 0 rfl) ?_
                          refine lv_bipush (v := (105 : Int32)) hx hb dX7_runs_261 (by decide) ?_
                          have jn57 : ∀ (v56 : Int32) (H : Heap) (locs : List Loc) (ls : Array Slot), f_X7_runs_J271 (f_X7_runs_L20 p0 p1 n) k4 v7 M55 v6 v56 = some (Mz, r) → wP Z (X, M55, O) H → va_S (wA Z s.heap.size) s.heap H locs → lv_has ls 7 [(4, .int v6), (0, .ref (Z.2.2 26 0)), (1, .int p0), (2, .int p1)] → W p l e (headSpec ws_X7_runs rm_X7_runs).room s m args below meth c H locs 0 0 (vx_MQ below (cQi Z (X, Mz, O) (.inl r) s.heap.size) (cX Z (X, Mz, O) (.inl r : Int32 ⊕ String) s.heap.size) args s 0 0 (wA Z s.heap.size)) (F0 m 271 ls [.int v56, .int v7]) := by
                            intro v56 H locs ls hk hP hS hl
                            unfold f_X7_runs_J271 at hk
                            refine lv_iadd hx hb dX7_runs_271 ?_
                            obtain ⟨v58, ev58, hk⟩ := lq_s hk
                            refine W.eq (g2 := F0 m 272 ls [.int v58]) (by rw [ev58]) ?_
                            refine lv_istore_n (lv' := [(3, .int v58), (4, .int v6), (0, .ref (Z.2.2 26 0)), (1, .int p0), (2, .int p1)]) hx hb dX7_runs_272 rfl hl (by decide) rfl (fun ls hl => ?_)
                            refine lv_aload_n hx hb dX7_runs_273 rfl (lv_at hl 2 rfl) ?_
                            refine lv_dup hx hb dX7_runs_274 rfl ?_
                            refine gf_RX7_128 hx hb hts hown hK hP (by decide) dX7_runs_275 ?_
                            refine lv_iconst (v := (1 : Int32)) hx hb dX7_runs_278 (by decide) ?_
                            refine lv_iadd hx hb dX7_runs_279 ?_
                            obtain ⟨M59, eM59, hk⟩ := lq_s hk
                            refine pf_RX7_128 hx hb hts hown hZ hK hP hS (by decide) dX7_runs_280 (fun H locs hP hS => ?_)
                            rw [← eM59] at hP
                            refine lv_goto (tgt := 370) hx hb dX7_runs_283 (by decide) ?_
                            refine lv_iinc (v := (v6 + (1 : Int32))) (lv' := [(4, .int (v6 + (1 : Int32))), (3, .int v58), (0, .ref (Z.2.2 26 0)), (1, .int p0), (2, .int p1)]) hx hb dX7_runs_370 hl (k := 1) rfl rfl (by decide) rfl (fun ls hl => ?_)
                            refine lv_goto (tgt := 20) hx hb dX7_runs_373 (by decide) ?_
                            exact ih (v6 + (1 : Int32)) v58 M59 _ _ _ hk hP hS (lv_sub hl [0, 1, 2, 3, 4] rfl)
                          refine lv_icmp_ne (tgt := 270) hx hb dX7_runs_263 (by decide) (fun cz60 => ?_) (fun cz60 => ?_)
                          · have hk := it_f cz60 hk
                            refine lv_iconst (v := (0 : Int32)) hx hb dX7_runs_270 (by decide) ?_
                            exact jn57 (0 : Int32) _ _ _ hk hP hS (lv_sub hl [1, 3, 4, 5] rfl)
                          · have hk := it_t cz60 hk
                            refine lv_iconst (v := (1 : Int32)) hx hb dX7_runs_266 (by decide) ?_
                            refine lv_goto (tgt := 271) hx hb dX7_runs_267 (by decide) ?_
                            exact jn57 (1 : Int32) _ _ _ hk hP hS (lv_sub hl [1, 3, 4, 5] rfl)
                        refine lv_icmp_ne (tgt := 226) hx hb dX7_runs_208 (by decide) (fun cz61 => ?_) (fun cz61 => ?_)
                        · have hk := it_f cz61 hk
                          refine lv_iload hx hb dX7_runs_226 (lv_at hl 1 rfl) ?_
                          refine lv_bipush (v := (100 : Int32)) hx hb dX7_runs_228 (by decide) ?_
                          refine lv_icmp_ne (tgt := 247) hx hb dX7_runs_230 (by decide) (fun cz62 => ?_) (fun cz62 => ?_)
                          · have hk := it_f cz62 hk
                            refine lv_aload_n hx hb dX7_runs_247 rfl (lv_at hl 4 rfl) ?_
                            refine gf_RX7_69 hx hb hts hown hK hP (by decide) dX7_runs_248 ?_
                            refine lv_iconst (v := (4 : Int32)) hx hb dX7_runs_251 (by decide) ?_
                            refine lv_iload_n hx hb dX7_runs_252 rfl (lv_at hl 6 rfl) ?_
                            refine lv_imul hx hb dX7_runs_253 ?_
                            refine lv_iload_n hx hb dX7_runs_254 rfl (lv_at hl 3 rfl) ?_
                            refine lv_iadd hx hb dX7_runs_255 ?_
                            obtain ⟨hg63, hk⟩ := gd_s hk
                            refine wa_iaload_36 hx hb hK hP (by decide) hg63 dX7_runs_256 ?_
                            exact jn53 (M37.1 36 0 ((((4 : Int32) * p1) + v7)).toNatClampNeg) _ _ _ hk hP hS (lv_sub hl [1, 2, 3, 4, 5, 6] rfl)
                          · have hk := it_t cz62 hk
                            refine lv_aload_n hx hb dX7_runs_233 rfl (lv_at hl 4 rfl) ?_
                            refine gf_RX7_122 hx hb hts hown hK hP (by decide) dX7_runs_234 ?_
                            refine lv_aload_n hx hb dX7_runs_237 rfl (lv_at hl 4 rfl) ?_
                            refine gf_RX7_128 hx hb hts hown hK hP (by decide) dX7_runs_238 ?_
                            refine lv_iconst (v := (1 : Int32)) hx hb dX7_runs_241 (by decide) ?_
                            refine lv_isub hx hb dX7_runs_242 ?_
                            obtain ⟨hg64, hk⟩ := gd_s hk
                            refine wa_iaload_53 hx hb hK hP (by decide) hg64 dX7_runs_243 ?_
                            refine lv_goto (tgt := 257) hx hb dX7_runs_244 (by decide) ?_
                            exact jn53 (M37.1 53 0 (((M37.1 26 0 38) - (1 : Int32))).toNatClampNeg) _ _ _ hk hP hS (lv_sub hl [1, 2, 3, 4, 5, 6] rfl)
                        · have hk := it_t cz61 hk
                          refine lv_aload_n hx hb dX7_runs_211 rfl (lv_at hl 4 rfl) ?_
                          refine gf_RX7_44 hx hb hts hown hK hP (by decide) dX7_runs_212 ?_
                          refine lv_bipush (v := (24 : Int32)) hx hb dX7_runs_215 (by decide) ?_
                          refine lv_iload_n hx hb dX7_runs_217 rfl (lv_at hl 5 rfl) ?_
                          refine lv_imul hx hb dX7_runs_218 ?_
                          refine lv_iload hx hb dX7_runs_219 (lv_at hl 2 rfl) ?_
                          refine lv_iadd hx hb dX7_runs_221 ?_
                          obtain ⟨hg65, hk⟩ := gd_s hk
                          refine wa_iaload_28 hx hb hK hP (by decide) hg65 dX7_runs_222 ?_
                          refine lv_goto (tgt := 257) hx hb dX7_runs_223 (by decide) ?_
                          exact jn53 (M37.1 28 0 ((((24 : Int32) * p0) + v6)).toNatClampNeg) _ _ _ hk hP hS (lv_sub hl [1, 2, 3, 4, 5, 6] rfl)
                    refine lv_icmp_ne (tgt := 181) hx hb dX7_runs_166 (by decide) (fun cz66 => ?_) (fun cz66 => ?_)
                    · have hk := it_f cz66 hk
                      exact jn36 _ _ _ hk hP hS (lv_sub hl [0, 1, 2, 3, 4, 5, 6] rfl)
                    · have hk := it_t cz66 hk
                      refine lv_aload_n hx hb dX7_runs_169 rfl (lv_at hl 4 rfl) ?_
                      refine gf_RX7_131 hx hb hts hown hK hP (by decide) dX7_runs_170 ?_
                      refine lv_bipush (v := (6 : Int32)) hx hb dX7_runs_173 (by decide) ?_
                      refine lv_icmp_ne (tgt := 181) hx hb dX7_runs_175 (by decide) (fun cz67 => ?_) (fun cz67 => ?_)
                      · have hk := it_f cz67 hk
                        exact jn36 _ _ _ hk hP hS (lv_sub hl [0, 1, 2, 3, 4, 5, 6] rfl)
                      · have hk := it_t cz67 hk
                        refine lv_bipush (v := (108 : Int32)) hx hb dX7_runs_178 (by decide) ?_
                        cases (show some _ = some _ from hk)
                        exact we_z hx hb hr hlocks (show okc (108 : Int32) by unfold okc; decide).1 hP rfl hS dX7_runs_180 (by decide) (by decide)
                  refine lv_if_eq (tgt := 162) hx hb dX7_runs_147 (by decide) (fun cz68 => ?_) (fun cz68 => ?_)
                  · have hk := it_t cz68 hk
                    exact jn35 _ _ _ hk hP hS (lv_sub hl [0, 1, 2, 3, 4, 5, 6] rfl)
                  · have hk := it_f cz68 hk
                    refine lv_aload_n hx hb dX7_runs_150 rfl (lv_at hl 4 rfl) ?_
                    refine gf_RX7_128 hx hb hts hown hK hP (by decide) dX7_runs_151 ?_
                    refine lv_bipush (v := (12 : Int32)) hx hb dX7_runs_154 (by decide) ?_
                    refine lv_icmp_ne (tgt := 162) hx hb dX7_runs_156 (by decide) (fun cz69 => ?_) (fun cz69 => ?_)
                    · have hk := it_f cz69 hk
                      exact jn35 _ _ _ hk hP hS (lv_sub hl [0, 1, 2, 3, 4, 5, 6] rfl)
                    · have hk := it_t cz69 hk
                      refine lv_bipush (v := (118 : Int32)) hx hb dX7_runs_159 (by decide) ?_
                      cases (show some _ = some _ from hk)
                      exact we_z hx hb hr hlocks (show okc (118 : Int32) by unfold okc; decide).1 hP rfl hS dX7_runs_161 (by decide) (by decide)
                refine lv_icmp_ne (tgt := 145) hx hb dX7_runs_125 (by decide) (fun cz70 => ?_) (fun cz70 => ?_)
                · have hk := it_f cz70 hk
                  exact jn34 _ _ _ hk hP hS (lv_sub hl [0, 1, 2, 3, 4, 5, 6] rfl)
                · have hk := it_t cz70 hk
                  refine lv_aload_n hx hb dX7_runs_128 rfl (lv_at hl 4 rfl) ?_
                  refine gf_RX7_122 hx hb hts hown hK hP (by decide) dX7_runs_129 ?_
                  refine lv_aload_n hx hb dX7_runs_132 rfl (lv_at hl 4 rfl) ?_
                  refine gf_RX7_128 hx hb hts hown hK hP (by decide) dX7_runs_133 ?_
                  refine lv_iconst (v := (1 : Int32)) hx hb dX7_runs_136 (by decide) ?_
                  refine lv_isub hx hb dX7_runs_137 ?_
                  obtain ⟨hg71, hk⟩ := gd_s hk
                  refine wa_iaload_53 hx hb hK hP (by decide) hg71 dX7_runs_138 ?_
                  refine lv_if_ne (tgt := 145) hx hb dX7_runs_139 (by decide) (fun cz72 => ?_) (fun cz72 => ?_)
                  · have hk := it_f cz72 hk
                    exact jn34 _ _ _ hk hP hS (lv_sub hl [0, 1, 2, 3, 4, 5, 6] rfl)
                  · have hk := it_t cz72 hk
                    refine lv_bipush (v := (122 : Int32)) hx hb dX7_runs_142 (by decide) ?_
                    cases (show some _ = some _ from hk)
                    exact we_z hx hb hr hlocks (show okc (122 : Int32) by unfold okc; decide).1 hP rfl hS dX7_runs_144 (by decide) (by decide)
              refine lv_icmp_ne (tgt := 121) hx hb dX7_runs_105 (by decide) (fun cz73 => ?_) (fun cz73 => ?_)
              · have hk := it_f cz73 hk
                exact jn33 _ _ _ hk hP hS (lv_sub hl [0, 1, 2, 3, 4, 5, 6] rfl)
              · have hk := it_t cz73 hk
                refine lv_iload_n hx hb dX7_runs_108 rfl (lv_at hl 3 rfl) ?_
                refine lv_aload_n hx hb dX7_runs_109 rfl (lv_at hl 4 rfl) ?_
                refine gf_RX7_63 hx hb hts hown hK hP (by decide) dX7_runs_110 ?_
                refine lv_iload_n hx hb dX7_runs_113 rfl (lv_at hl 6 rfl) ?_
                obtain ⟨hg74, hk⟩ := gd_s hk
                refine wa_iaload_34 hx hb hK hP (by decide) hg74 dX7_runs_114 ?_
                refine lv_icmp_ne (tgt := 121) hx hb dX7_runs_115 (by decide) (fun cz75 => ?_) (fun cz75 => ?_)
                · have hk := it_f cz75 hk
                  exact jn33 _ _ _ hk hP hS (lv_sub hl [0, 1, 2, 3, 4, 5, 6] rfl)
                · have hk := it_t cz75 hk
                  refine lv_bipush (v := (101 : Int32)) hx hb dX7_runs_118 (by decide) ?_
                  cases (show some _ = some _ from hk)
                  exact we_z hx hb hr hlocks (show okc (101 : Int32) by unfold okc; decide).1 hP rfl hS dX7_runs_120 (by decide) (by decide)
            · have hk := it_f cz32 hk
              refine lv_bipush (v := (117 : Int32)) hx hb dX7_runs_98 (by decide) ?_
              cases (show some _ = some _ from hk)
              exact we_z hx hb hr hlocks (show okc (117 : Int32) by unfold okc; decide).1 hP rfl hS dX7_runs_100 (by decide) (by decide)
          · have hk := it_t cz29 hk
            refine lv_bipush (v := (116 : Int32)) hx hb dX7_runs_83 (by decide) ?_
            cases (show some _ = some _ from hk)
            exact we_z hx hb hr hlocks (show okc (116 : Int32) by unfold okc; decide).1 hP rfl hS dX7_runs_85 (by decide) (by decide)
        have jn76 : ∀ (H : Heap) (locs : List Loc) (ls : Array Slot), f_X7_runs_J66 (f_X7_runs_L20 p0 p1 n) k4 M8 v26 p1 v7 p0 v6  = some (Mz, r) → wP Z (X, M8, O) H → va_S (wA Z s.heap.size) s.heap H locs → lv_has ls 7 [(5, .int v26), (4, .int v6), (3, .int v7), (0, .ref (Z.2.2 26 0)), (1, .int p0), (2, .int p1)] → W p l e (headSpec ws_X7_runs rm_X7_runs).room s m args below meth c H locs 0 0 (vx_MQ below (cQi Z (X, Mz, O) (.inl r) s.heap.size) (cX Z (X, Mz, O) (.inl r : Int32 ⊕ String) s.heap.size) args s 0 0 (wA Z s.heap.size)) (F0 m 66 ls []) := by
          intro  H locs ls hk hP hS hl
          unfold f_X7_runs_J66 at hk
          refine lv_iconst (v := (1 : Int32)) hx hb dX7_runs_66 (by decide) ?_
          refine lv_goto (tgt := 71) hx hb dX7_runs_67 (by decide) ?_
          exact jn28 (1 : Int32) _ _ _ hk hP hS (lv_sub hl [0, 1, 2, 3, 4, 5] rfl)
        refine lv_icmp_eq (tgt := 66) hx hb dX7_runs_49 (by decide) (fun cz77 => ?_) (fun cz77 => ?_)
        · have hk := it_t cz77 hk
          exact jn76 _ _ _ hk hP hS (lv_sub hl [0, 1, 2, 3, 4, 5] rfl)
        · have hk := it_f cz77 hk
          refine lv_iload hx hb dX7_runs_52 (lv_at hl 0 rfl) ?_
          refine lv_bipush (v := (105 : Int32)) hx hb dX7_runs_54 (by decide) ?_
          refine lv_icmp_eq (tgt := 66) hx hb dX7_runs_56 (by decide) (fun cz78 => ?_) (fun cz78 => ?_)
          · have hk := it_t cz78 hk
            exact jn76 _ _ _ hk hP hS (lv_sub hl [0, 1, 2, 3, 4, 5] rfl)
          · have hk := it_f cz78 hk
            refine lv_iload hx hb dX7_runs_59 (lv_at hl 0 rfl) ?_
            refine lv_bipush (v := (100 : Int32)) hx hb dX7_runs_61 (by decide) ?_
            refine lv_icmp_ne (tgt := 70) hx hb dX7_runs_63 (by decide) (fun cz79 => ?_) (fun cz79 => ?_)
            · have hk := it_f cz79 hk
              refine lv_iconst (v := (0 : Int32)) hx hb dX7_runs_70 (by decide) ?_
              exact jn28 (0 : Int32) _ _ _ hk hP hS (lv_sub hl [0, 1, 2, 3, 4, 5] rfl)
            · have hk := it_t cz79 hk
              exact jn76 _ _ _ hk hP hS (lv_sub hl [0, 1, 2, 3, 4, 5] rfl)
  exact lp4 1000 (0 : Int32) (0 : Int32) M3 _ _ _ hk hP hS (lv_sub hl [0, 1, 2, 3, 4] rfl)