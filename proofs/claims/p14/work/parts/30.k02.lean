set_option maxHeartbeats 4000000 in
set_option maxRecDepth 100000 in
theorem k_X6_step (l : Launch) (hfl : l.stackTraces = false) (Z : ZT) (hZ : wD Z) (X M O : SS) (p0 : Int32) (p1 : Int32) (Xz : SS) (o : Int32 ⊕ String) (hf : f_X6_step X p0 p1 = some (Xz, o)) (sz : Nat) : vx_Met l yX6_step ws_X6_step rm_X6_step (va_Pc [.ref (Z.2.2 0 0), .int p0, .int p1] (cP Z (X, M, O) sz)) (cQi Z (Xz, M, O) o sz) (cX Z (Xz, M, O) o sz) 1 6 (wA Z sz) := by
  refine vx_ofW (cc := cX6_step) (maxL := 4) (ret := (some .int)) (by decide) rfl ?_
  intro p e s m args below meth c s₁ B hml htab hv
  obtain ⟨hargs, hsz, hE, hP, hK⟩ := hv
  have hx := B.exec
  have hb := B.bytes
  have hr := B.returns
  have hts0 := atoms_spec (ws := ws_X6_step) B.pre
  have hts : ∀ w ∈ lw_all, w.before args s = true := fun w h => hts0 w (List.mem_cons_of_mem _ h)
  have hown : s.vm.findClass RX6 = some m.cls := findClass_of_methodNamed B.named
  have hlocks := B.notSynchronized
  have hout9 : ∀ (pc9 : Nat), ∀ x ∈ c.exceptionTable.toList, covers x pc9 = false := fun _ x hx9 => (htab x hx9).elim
  subst hsz
  have hS : va_S (wA Z s.heap.size) s.heap s.heap [] := va_S.rf
  have hl := lv_entry ([.ref (Z.2.2 0 0), .int p0, .int p1]) (n := 4) (Nat.le_of_ble_eq_true rfl)
  have hen : entryFrame m args 4 = entryFrame m ([.ref (Z.2.2 0 0), .int p0, .int p1] : List Value).toArray 4 := by rw [hargs]
  rw [hen, lg_entry_eq]
  generalize (lg_sl ([.ref (Z.2.2 0 0), .int p0, .int p1]) ++ List.replicate (4 - (lg_sl ([.ref (Z.2.2 0 0), .int p0, .int p1])).length) Slot.unset).toArray = ls at hl ⊢
  have hl : lv_has ls 4 [(0, .ref (Z.2.2 0 0)), (1, .int p0), (2, .int p1)] := hl
  have hk := hf
  unfold f_X6_step at hk
  obtain ⟨gS, gB, hLE⟩ := EV.le hE
  refine va_ldcS hx hb hown hLE.1 dX6_step_0 ?_
  refine lv_iload_n hx hb dX6_step_2 rfl (lv_at hl 1 rfl) ?_
  refine wc_index (rest := []) (x := p0) hfl ⟨hx, hb, hml, hown, hts⟩ hE hLE hP hK hS hl.1 (Nat.le_of_ble_eq_true rfl) (Nat.le_of_ble_eq_true rfl) (Nat.le_of_ble_eq_true rfl) dX6_step_3 ⟨Nat.le_of_ble_eq_true rfl, Nat.le_of_ble_eq_true rfl⟩ (fun H locs hP hS => ?_)
  refine lv_if_ge (tgt := 19) hx hb dX6_step_6 (by decide) (fun cz1 => ?_) (fun cz1 => ?_)
  · have hk := it_t cz1 hk
    refine lv_iload_n hx hb dX6_step_19 rfl (lv_at hl 1 rfl) ?_
    refine lv_bipush (v := (110 : Int32)) hx hb dX6_step_20 (by decide) ?_
    have jn3 : ∀ (v2 : Int32) (H : Heap) (locs : List Loc) (ls : Array Slot), f_X6_step_J30 X p0 p1 v2 = some (Xz, o) → wP Z (X, M, O) H → va_S (wA Z s.heap.size) s.heap H locs → lv_has ls 4 [(0, .ref (Z.2.2 0 0)), (1, .int p0), (2, .int p1)] → W p l e (headSpec ws_X6_step rm_X6_step).room s m args below meth c H locs 0 0 (vx_MQ below (cQi Z (Xz, M, O) o s.heap.size) (cX Z (Xz, M, O) o s.heap.size) args s 1 6 (wA Z s.heap.size)) (F0 m 30 ls [.int v2]) := by
      intro v2 H locs ls hk hP hS hl
      unfold f_X6_step_J30 at hk
      refine lv_istore_n (lv' := [(3, .int v2), (0, .ref (Z.2.2 0 0)), (1, .int p0), (2, .int p1)]) hx hb dX6_step_30 rfl hl (by decide) rfl (fun ls hl => ?_)
      refine lv_iload_n hx hb dX6_step_31 rfl (lv_at hl 0 rfl) ?_
      have jn4 : ∀ (H : Heap) (locs : List Loc) (ls : Array Slot), f_X6_step_J52 X v2 p0 p1  = some (Xz, o) → wP Z (X, M, O) H → va_S (wA Z s.heap.size) s.heap H locs → lv_has ls 4 [(3, .int v2), (0, .ref (Z.2.2 0 0)), (1, .int p0), (2, .int p1)] → W p l e (headSpec ws_X6_step rm_X6_step).room s m args below meth c H locs 0 0 (vx_MQ below (cQi Z (Xz, M, O) o s.heap.size) (cX Z (Xz, M, O) o s.heap.size) args s 1 6 (wA Z s.heap.size)) (F0 m 52 ls []) := by
        intro  H locs ls hk hP hS hl
        unfold f_X6_step_J52 at hk
        refine lv_aload_n hx hb dX6_step_52 rfl (lv_at hl 1 rfl) ?_
        refine gf_RX6_10 hx hb hts hown hK hP (by decide) dX6_step_53 ?_
        refine gf_RX6_105 hx hb hts hown hK hP (by decide) dX6_step_56 ?_
        refine lv_bipush (v := (24 : Int32)) hx hb dX6_step_59 (by decide) ?_
        refine lv_icmp_lt (tgt := 74) hx hb dX6_step_61 (by decide) (fun cz5 => ?_) (fun cz5 => ?_)
        · have hk := it_t cz5 hk
          refine lv_aload_n hx hb dX6_step_74 rfl (lv_at hl 1 rfl) ?_
          refine gf_RX6_10 hx hb hts hown hK hP (by decide) dX6_step_75 ?_
          refine lv_iload_n hx hb dX6_step_78 rfl (lv_at hl 2 rfl) ?_
          refine lv_iload_n hx hb dX6_step_79 rfl (lv_at hl 0 rfl) ?_
          refine lv_if_eq (tgt := 87) hx hb dX6_step_80 (by decide) (fun cz6 => ?_) (fun cz6 => ?_)
          · have hk := it_t cz6 hk
            refine lv_iconst (v := (0 : Int32)) hx hb dX6_step_87 (by decide) ?_
            obtain ⟨X8, v7, hf9, hk⟩ := b1_s hk
            refine wc_vV0 (rest := []) (As := [.int p0, .int (0 : Int32)]) ⟨hx, hb, hml, hown, hts⟩ (fun sz => k_X3_append l hfl Z hZ X M O 0 p0 (0 : Int32) (by decide) X8 v7 hf9 sz) (cw_RX6_113 (args := args) (s := s) hts (Nat.le_of_ble_eq_true rfl) (Nat.le_of_ble_eq_true rfl)) hE hP hK hS (rv_1 hK hP (by decide)) rfl hl.1 rfl (Nat.le_of_ble_eq_true rfl) dX6_step_88 ⟨Nat.le_of_ble_eq_true rfl, Nat.le_of_ble_eq_true rfl⟩ (fun H locs hP hS => ?_)
            refine lv_aload_n hx hb dX6_step_91 rfl (lv_at hl 1 rfl) ?_
            refine gf_RX6_10 hx hb hts hown hK hP (by decide) dX6_step_92 ?_
            refine gf_RX6_105 hx hb hts hown hK hP (by decide) dX6_step_95 ?_
            cases (show some _ = some _ from hk)
            exact we_i hx hb hr hlocks hP rfl hS dX6_step_98 (by decide) (by decide)
          · have hk := it_f cz6 hk
            refine lv_iload_n hx hb dX6_step_83 rfl (lv_at hl 3 rfl) ?_
            refine lv_goto (tgt := 88) hx hb dX6_step_84 (by decide) ?_
            obtain ⟨X11, v10, hf12, hk⟩ := b1_s hk
            refine wc_vV0 (rest := []) (As := [.int p0, .int p1]) ⟨hx, hb, hml, hown, hts⟩ (fun sz => k_X3_append l hfl Z hZ X M O 0 p0 p1 (by decide) X11 v10 hf12 sz) (cw_RX6_113 (args := args) (s := s) hts (Nat.le_of_ble_eq_true rfl) (Nat.le_of_ble_eq_true rfl)) hE hP hK hS (rv_1 hK hP (by decide)) rfl hl.1 rfl (Nat.le_of_ble_eq_true rfl) dX6_step_88 ⟨Nat.le_of_ble_eq_true rfl, Nat.le_of_ble_eq_true rfl⟩ (fun H locs hP hS => ?_)
            refine lv_aload_n hx hb dX6_step_91 rfl (lv_at hl 1 rfl) ?_
            refine gf_RX6_10 hx hb hts hown hK hP (by decide) dX6_step_92 ?_
            refine gf_RX6_105 hx hb hts hown hK hP (by decide) dX6_step_95 ?_
            cases (show some _ = some _ from hk)
            exact we_i hx hb hr hlocks hP rfl hS dX6_step_98 (by decide) (by decide)
        · have hk := it_f cz5 hk
          cases (show some _ = some _ from hk)
          obtain ⟨sa, hstr⟩ := EV.str hE (own := RX6) (k := 110) (tx := "there are 24 steps") (by decide +kernel)
          exact vx_throwS (mc := 1) (ms := 6) (names := ["java/lang/RuntimeException", "java/lang/Exception"]) hx hb hfl hown (by decide +kernel) (by decide +kernel) (hts _ q705) (hts _ q95) hstr (th_112 hE hts) (by decide +kernel) (EV.zu hE) (EV.zn hE) hS (hl.1.trans hml.symm) dX6_step_64 dX6_step_67 dX6_step_68 dX6_step_70 dX6_step_73 (hout9 _) (Nat.le_of_ble_eq_true rfl) (Nat.le_of_ble_eq_true rfl) (Nat.le_of_ble_eq_true rfl) (Nat.le_of_ble_eq_true rfl) hlocks (fun t9 _ h8 h9 => ⟨(), trivial, ⟨rfl, wP_kept hP h9⟩, fF hS h8 h9⟩) hS.2.2 (by decide) (by decide)
      refine lv_if_eq (tgt := 52) hx hb dX6_step_32 (by decide) (fun cz13 => ?_) (fun cz13 => ?_)
      · have hk := it_t cz13 hk
        exact jn4 _ _ _ hk hP hS (lv_sub hl [0, 1, 2, 3] rfl)
      · have hk := it_f cz13 hk
        refine lv_iload_n hx hb dX6_step_35 rfl (lv_at hl 3 rfl) ?_
        obtain ⟨v14, hf15, hk⟩ := b0_s hk
        refine wc_iS0 (rest := []) (As := [.int p1]) ⟨hx, hb, hml, hown, hts⟩ (fun sz => k_X6_isOutOfRange l hfl Z hZ X M O p1 v14 hf15 sz) (cw_RX6_99 (args := args) (s := s) hts (Nat.le_of_ble_eq_true rfl) (Nat.le_of_ble_eq_true rfl)) hE hP hK hS  rfl hl.1 rfl (Nat.le_of_ble_eq_true rfl) dX6_step_36 ⟨Nat.le_of_ble_eq_true rfl, Nat.le_of_ble_eq_true rfl⟩ (fun H locs hP hS => ?_)
        refine lv_if_eq (tgt := 52) hx hb dX6_step_39 (by decide) (fun cz16 => ?_) (fun cz16 => ?_)
        · have hk := it_t cz16 hk
          exact jn4 _ _ _ hk hP hS (lv_sub hl [0, 1, 2, 3] rfl)
        · have hk := it_f cz16 hk
          cases (show some _ = some _ from hk)
          obtain ⟨sa, hstr⟩ := EV.str hE (own := RX6) (k := 103) (tx := "the number is out of range") (by decide +kernel)
          exact vx_throwS (mc := 1) (ms := 6) (names := ["java/lang/RuntimeException", "java/lang/Exception"]) hx hb hfl hown (by decide +kernel) (by decide +kernel) (hts _ q629) (hts _ q94) hstr (th_96 hE hts) (by decide +kernel) (EV.zu hE) (EV.zn hE) hS (hl.1.trans hml.symm) dX6_step_42 dX6_step_45 dX6_step_46 dX6_step_48 dX6_step_51 (hout9 _) (Nat.le_of_ble_eq_true rfl) (Nat.le_of_ble_eq_true rfl) (Nat.le_of_ble_eq_true rfl) (Nat.le_of_ble_eq_true rfl) hlocks (fun t9 _ h8 h9 => ⟨(), trivial, ⟨rfl, wP_kept hP h9⟩, fF hS h8 h9⟩) hS.2.2 (by decide) (by decide)
    refine lv_icmp_ne (tgt := 29) hx hb dX6_step_22 (by decide) (fun cz17 => ?_) (fun cz17 => ?_)
    · have hk := it_f cz17 hk
      refine lv_iconst (v := (0 : Int32)) hx hb dX6_step_29 (by decide) ?_
      exact jn3 (0 : Int32) _ _ _ hk hP hS (lv_sub hl [0, 1, 2] rfl)
    · have hk := it_t cz17 hk
      refine lv_iconst (v := (1 : Int32)) hx hb dX6_step_25 (by decide) ?_
      refine lv_goto (tgt := 30) hx hb dX6_step_26 (by decide) ?_
      exact jn3 (1 : Int32) _ _ _ hk hP hS (lv_sub hl [0, 1, 2] rfl)
  · have hk := it_f cz1 hk
    cases (show some _ = some _ from hk)
    obtain ⟨sa, hstr⟩ := EV.str hE (own := RX6) (k := 94) (tx := "no such letter") (by decide +kernel)
    exact vx_throwS (mc := 1) (ms := 6) (names := ["java/lang/RuntimeException", "java/lang/Exception"]) hx hb hfl hown (by decide +kernel) (by decide +kernel) (hts _ q629) (hts _ q94) hstr (th_96 hE hts) (by decide +kernel) (EV.zu hE) (EV.zn hE) hS (hl.1.trans hml.symm) dX6_step_9 dX6_step_12 dX6_step_13 dX6_step_15 dX6_step_18 (hout9 _) (Nat.le_of_ble_eq_true rfl) (Nat.le_of_ble_eq_true rfl) (Nat.le_of_ble_eq_true rfl) (Nat.le_of_ble_eq_true rfl) hlocks (fun t9 _ h8 h9 => ⟨(), trivial, ⟨rfl, wP_kept hP h9⟩, fF hS h8 h9⟩) hS.2.2 (by decide) (by decide)
set_option maxHeartbeats 4000000 in
set_option maxRecDepth 100000 in
theorem k_X6_wipe (l : Launch) (hfl : l.stackTraces = false) (Z : ZT) (hZ : wD Z) (X M O : SS) (Xz : SS) (r : Int32) (hf : f_X6_wipe X = some (Xz, r)) (sz : Nat) : vx_Met l yX6_wipe ws_X6_wipe rm_X6_wipe (va_Pc [.ref (Z.2.2 0 0)] (cP Z (X, M, O) sz)) (cQi Z (Xz, M, O) (.inl r) sz) (cX Z (Xz, M, O) (.inl r : Int32 ⊕ String) sz) 0 0 (wA Z sz) := by
  refine vx_ofW (cc := cX6_wipe) (maxL := 2) (ret := (some .int)) (by decide) rfl ?_
  intro p e s m args below meth c s₁ B hml htab hv
  obtain ⟨hargs, hsz, hE, hP, hK⟩ := hv
  have hx := B.exec
  have hb := B.bytes
  have hr := B.returns
  have hts0 := atoms_spec (ws := ws_X6_wipe) B.pre
  have hts : ∀ w ∈ lw_all, w.before args s = true := fun w h => hts0 w (List.mem_cons_of_mem _ h)
  have hown : s.vm.findClass RX6 = some m.cls := findClass_of_methodNamed B.named
  have hlocks := B.notSynchronized
  have hout9 : ∀ (pc9 : Nat), ∀ x ∈ c.exceptionTable.toList, covers x pc9 = false := fun _ x hx9 => (htab x hx9).elim
  subst hsz
  have hS : va_S (wA Z s.heap.size) s.heap s.heap [] := va_S.rf
  have hl := lv_entry ([.ref (Z.2.2 0 0)]) (n := 2) (Nat.le_of_ble_eq_true rfl)
  have hen : entryFrame m args 2 = entryFrame m ([.ref (Z.2.2 0 0)] : List Value).toArray 2 := by rw [hargs]
  rw [hen, lg_entry_eq]
  generalize (lg_sl ([.ref (Z.2.2 0 0)]) ++ List.replicate (2 - (lg_sl ([.ref (Z.2.2 0 0)])).length) Slot.unset).toArray = ls at hl ⊢
  have hl : lv_has ls 2 [(0, .ref (Z.2.2 0 0))] := hl
  have hk := hf
  unfold f_X6_wipe at hk
  refine lv_aload_n hx hb dX6_wipe_0 rfl (lv_at hl 0 rfl) ?_
  refine gf_RX6_10 hx hb hts hown hK hP (by decide) dX6_wipe_1 ?_
  refine gf_RX6_105 hx hb hts hown hK hP (by decide) dX6_wipe_4 ?_
  obtain ⟨v1, ev1, hk⟩ := lq_s hk
  refine W.eq (g2 := F0 m 7 ls [.int v1]) (by rw [ev1]) ?_
  refine lv_istore_n (lv' := [(1, .int v1), (0, .ref (Z.2.2 0 0))]) hx hb dX6_wipe_7 rfl hl (by decide) rfl (fun ls hl => ?_)
  refine lv_aload_n hx hb dX6_wipe_8 rfl (lv_at hl 1 rfl) ?_
  refine gf_RX6_10 hx hb hts hown hK hP (by decide) dX6_wipe_9 ?_
  obtain ⟨X3, v2, hf4, hk⟩ := b1_s hk
  refine wc_vV0 (rest := []) (As := []) ⟨hx, hb, hml, hown, hts⟩ (fun sz => k_X3_erase l hfl Z hZ X M O 0 (by decide) X3 v2 hf4 sz) (cw_RX6_117 (args := args) (s := s) hts (Nat.le_of_ble_eq_true rfl) (Nat.le_of_ble_eq_true rfl)) hE hP hK hS (rv_1 hK hP (by decide)) rfl hl.1 rfl (Nat.le_of_ble_eq_true rfl) dX6_wipe_12 ⟨Nat.le_of_ble_eq_true rfl, Nat.le_of_ble_eq_true rfl⟩ (fun H locs hP hS => ?_)
  refine lv_iload_n hx hb dX6_wipe_15 rfl (lv_at hl 0 rfl) ?_
  cases (show some _ = some _ from hk)
  exact we_i hx hb hr hlocks hP rfl hS dX6_wipe_16 (by decide) (by decide)
set_option maxHeartbeats 4000000 in
set_option maxRecDepth 100000 in
theorem k_X6_number (l : Launch) (hfl : l.stackTraces = false) (Z : ZT) (hZ : wD Z) (X M O : SS) (p0 : Int32) (p1 : Int32) (Xz : SS) (o : Int32 ⊕ String) (hf : f_X6_number X p0 p1 = some (Xz, o)) (sz : Nat) : vx_Met l yX6_number ws_X6_number rm_X6_number (va_Pc [.ref (Z.2.2 0 0), .int p0, .int p1] (cP Z (X, M, O) sz)) (cQi Z (Xz, M, O) o sz) (cX Z (Xz, M, O) o sz) 1 6 (wA Z sz) := by
  refine vx_ofW (cc := cX6_number) (maxL := 3) (ret := (some .int)) (by decide) rfl ?_
  intro p e s m args below meth c s₁ B hml htab hv
  obtain ⟨hargs, hsz, hE, hP, hK⟩ := hv
  have hx := B.exec
  have hb := B.bytes
  have hr := B.returns
  have hts0 := atoms_spec (ws := ws_X6_number) B.pre
  have hts : ∀ w ∈ lw_all, w.before args s = true := fun w h => hts0 w (List.mem_cons_of_mem _ h)
  have hown : s.vm.findClass RX6 = some m.cls := findClass_of_methodNamed B.named
  have hlocks := B.notSynchronized
  have hout9 : ∀ (pc9 : Nat), ∀ x ∈ c.exceptionTable.toList, covers x pc9 = false := fun _ x hx9 => (htab x hx9).elim
  subst hsz
  have hS : va_S (wA Z s.heap.size) s.heap s.heap [] := va_S.rf
  have hl := lv_entry ([.ref (Z.2.2 0 0), .int p0, .int p1]) (n := 3) (Nat.le_of_ble_eq_true rfl)
  have hen : entryFrame m args 3 = entryFrame m ([.ref (Z.2.2 0 0), .int p0, .int p1] : List Value).toArray 3 := by rw [hargs]
  rw [hen, lg_entry_eq]
  generalize (lg_sl ([.ref (Z.2.2 0 0), .int p0, .int p1]) ++ List.replicate (3 - (lg_sl ([.ref (Z.2.2 0 0), .int p0, .int p1])).length) Slot.unset).toArray = ls at hl ⊢
  have hl : lv_has ls 3 [(0, .ref (Z.2.2 0 0)), (1, .int p0), (2, .int p1)] := hl
  have hk := hf
  unfold f_X6_number at hk
  refine lv_iload_n hx hb dX6_number_0 rfl (lv_at hl 1 rfl) ?_
  obtain ⟨v1, hf2, hk⟩ := b0_s hk
  refine wc_iS0 (rest := []) (As := [.int p0]) ⟨hx, hb, hml, hown, hts⟩ (fun sz => k_X6_isOutOfRange l hfl Z hZ X M O p0 v1 hf2 sz) (cw_RX6_99 (args := args) (s := s) hts (Nat.le_of_ble_eq_true rfl) (Nat.le_of_ble_eq_true rfl)) hE hP hK hS  rfl hl.1 rfl (Nat.le_of_ble_eq_true rfl) dX6_number_1 ⟨Nat.le_of_ble_eq_true rfl, Nat.le_of_ble_eq_true rfl⟩ (fun H locs hP hS => ?_)
  refine lv_if_eq (tgt := 17) hx hb dX6_number_4 (by decide) (fun cz3 => ?_) (fun cz3 => ?_)
  · have hk := it_t cz3 hk
    refine lv_iload_n hx hb dX6_number_17 rfl (lv_at hl 2 rfl) ?_
    have jn4 : ∀ (H : Heap) (locs : List Loc) (ls : Array Slot), f_X6_number_J57 p1 X p0  = some (Xz, o) → wP Z (X, M, O) H → va_S (wA Z s.heap.size) s.heap H locs → lv_has ls 3 [(0, .ref (Z.2.2 0 0)), (1, .int p0), (2, .int p1)] → W p l e (headSpec ws_X6_number rm_X6_number).room s m args below meth c H locs 0 0 (vx_MQ below (cQi Z (Xz, M, O) o s.heap.size) (cX Z (Xz, M, O) o s.heap.size) args s 1 6 (wA Z s.heap.size)) (F0 m 57 ls []) := by
      intro  H locs ls hk hP hS hl
      unfold f_X6_number_J57 at hk
      refine lv_iload_n hx hb dX6_number_57 rfl (lv_at hl 2 rfl) ?_
      refine lv_if_eq (tgt := 72) hx hb dX6_number_58 (by decide) (fun cz5 => ?_) (fun cz5 => ?_)
      · have hk := it_t cz5 hk
        refine lv_aload_n hx hb dX6_number_72 rfl (lv_at hl 0 rfl) ?_
        refine gf_RX6_19 hx hb hts hown hK hP (by decide) dX6_number_73 ?_
        refine lv_iload_n hx hb dX6_number_76 rfl (lv_at hl 1 rfl) ?_
        obtain ⟨X7, v6, hf8, hk⟩ := b1_s hk
        refine wc_iV0 (rest := []) (As := [.int p0]) ⟨hx, hb, hml, hown, hts⟩ (fun sz => k_X4_addInput l hfl Z hZ X M O 40 p0 (by decide) X7 v6 hf8 sz) (cw_RX6_131 (args := args) (s := s) hts (Nat.le_of_ble_eq_true rfl) (Nat.le_of_ble_eq_true rfl)) hE hP hK hS (rv_4 hK hP (by decide)) rfl hl.1 rfl (Nat.le_of_ble_eq_true rfl) dX6_number_77 ⟨Nat.le_of_ble_eq_true rfl, Nat.le_of_ble_eq_true rfl⟩ (fun H locs hP hS => ?_)
        cases (show some _ = some _ from hk)
        exact we_i hx hb hr hlocks hP rfl hS dX6_number_80 (by decide) (by decide)
      · have hk := it_f cz5 hk
        refine lv_aload_n hx hb dX6_number_61 rfl (lv_at hl 0 rfl) ?_
        refine gf_RX6_19 hx hb hts hown hK hP (by decide) dX6_number_62 ?_
        refine lv_iload_n hx hb dX6_number_65 rfl (lv_at hl 1 rfl) ?_
        obtain ⟨X10, v9, hf11, hk⟩ := b1_s hk
        refine wc_iV0 (rest := []) (As := [.int p0]) ⟨hx, hb, hml, hown, hts⟩ (fun sz => k_X4_addExpected l hfl Z hZ X M O 40 p0 (by decide) X10 v9 hf11 sz) (cw_RX6_128 (args := args) (s := s) hts (Nat.le_of_ble_eq_true rfl) (Nat.le_of_ble_eq_true rfl)) hE hP hK hS (rv_4 hK hP (by decide)) rfl hl.1 rfl (Nat.le_of_ble_eq_true rfl) dX6_number_66 ⟨Nat.le_of_ble_eq_true rfl, Nat.le_of_ble_eq_true rfl⟩ (fun H locs hP hS => ?_)
        refine lv_goto (tgt := 80) hx hb dX6_number_69 (by decide) ?_
        cases (show some _ = some _ from hk)
        exact we_i hx hb hr hlocks hP rfl hS dX6_number_80 (by decide) (by decide)
    refine lv_if_eq (tgt := 36) hx hb dX6_number_18 (by decide) (fun cz12 => ?_) (fun cz12 => ?_)
    · have hk := it_t cz12 hk
      refine lv_aload_n hx hb dX6_number_36 rfl (lv_at hl 0 rfl) ?_
      refine gf_RX6_19 hx hb hts hown hK hP (by decide) dX6_number_37 ?_
      refine gf_RX6_123 hx hb hts hown hK hP (by decide) dX6_number_40 ?_
      refine lv_iconst (v := (4 : Int32)) hx hb dX6_number_43 (by decide) ?_
      refine lv_icmp_lt (tgt := 57) hx hb dX6_number_44 (by decide) (fun cz13 => ?_) (fun cz13 => ?_)
      · have hk := it_t cz13 hk
        exact jn4 _ _ _ hk hP hS (lv_sub hl [0, 1, 2] rfl)
      · have hk := it_f cz13 hk
        cases (show some _ = some _ from hk)
        obtain ⟨sa, hstr⟩ := EV.str hE (own := RX6) (k := 126) (tx := "there are no more numbers of this kind") (by decide +kernel)
        exact vx_throwS (mc := 1) (ms := 6) (names := ["java/lang/RuntimeException", "java/lang/Exception"]) hx hb hfl hown (by decide +kernel) (by decide +kernel) (hts _ q705) (hts _ q95) hstr (th_112 hE hts) (by decide +kernel) (EV.zu hE) (EV.zn hE) hS (hl.1.trans hml.symm) dX6_number_47 dX6_number_50 dX6_number_51 dX6_number_53 dX6_number_56 (hout9 _) (Nat.le_of_ble_eq_true rfl) (Nat.le_of_ble_eq_true rfl) (Nat.le_of_ble_eq_true rfl) (Nat.le_of_ble_eq_true rfl) hlocks (fun t9 _ h8 h9 => ⟨(), trivial, ⟨rfl, wP_kept hP h9⟩, fF hS h8 h9⟩) hS.2.2 (by decide) (by decide)
    · have hk := it_f cz12 hk
      refine lv_aload_n hx hb dX6_number_21 rfl (lv_at hl 0 rfl) ?_
      refine gf_RX6_19 hx hb hts hown hK hP (by decide) dX6_number_22 ?_
      refine gf_RX6_120 hx hb hts hown hK hP (by decide) dX6_number_25 ?_
      refine lv_bipush (v := (6 : Int32)) hx hb dX6_number_28 (by decide) ?_
      refine lv_icmp_lt (tgt := 57) hx hb dX6_number_30 (by decide) (fun cz14 => ?_) (fun cz14 => ?_)
      · have hk := it_t cz14 hk
        exact jn4 _ _ _ hk hP hS (lv_sub hl [0, 1, 2] rfl)
      · have hk := it_f cz14 hk
        refine lv_goto (tgt := 47) hx hb dX6_number_33 (by decide) ?_
        cases (show some _ = some _ from hk)
        obtain ⟨sa, hstr⟩ := EV.str hE (own := RX6) (k := 126) (tx := "there are no more numbers of this kind") (by decide +kernel)
        exact vx_throwS (mc := 1) (ms := 6) (names := ["java/lang/RuntimeException", "java/lang/Exception"]) hx hb hfl hown (by decide +kernel) (by decide +kernel) (hts _ q705) (hts _ q95) hstr (th_112 hE hts) (by decide +kernel) (EV.zu hE) (EV.zn hE) hS (hl.1.trans hml.symm) dX6_number_47 dX6_number_50 dX6_number_51 dX6_number_53 dX6_number_56 (hout9 _) (Nat.le_of_ble_eq_true rfl) (Nat.le_of_ble_eq_true rfl) (Nat.le_of_ble_eq_true rfl) (Nat.le_of_ble_eq_true rfl) hlocks (fun t9 _ h8 h9 => ⟨(), trivial, ⟨rfl, wP_kept hP h9⟩, fF hS h8 h9⟩) hS.2.2 (by decide) (by decide)
  · have hk := it_f cz3 hk
    cases (show some _ = some _ from hk)
    obtain ⟨sa, hstr⟩ := EV.str hE (own := RX6) (k := 103) (tx := "the number is out of range") (by decide +kernel)
    exact vx_throwS (mc := 1) (ms := 6) (names := ["java/lang/RuntimeException", "java/lang/Exception"]) hx hb hfl hown (by decide +kernel) (by decide +kernel) (hts _ q629) (hts _ q94) hstr (th_96 hE hts) (by decide +kernel) (EV.zu hE) (EV.zn hE) hS (hl.1.trans hml.symm) dX6_number_7 dX6_number_10 dX6_number_11 dX6_number_13 dX6_number_16 (hout9 _) (Nat.le_of_ble_eq_true rfl) (Nat.le_of_ble_eq_true rfl) (Nat.le_of_ble_eq_true rfl) (Nat.le_of_ble_eq_true rfl) hlocks (fun t9 _ h8 h9 => ⟨(), trivial, ⟨rfl, wP_kept hP h9⟩, fF hS h8 h9⟩) hS.2.2 (by decide) (by decide)
set_option maxHeartbeats 4000000 in
set_option maxRecDepth 100000 in
theorem k_X6_clear (l : Launch) (hfl : l.stackTraces = false) (Z : ZT) (hZ : wD Z) (X M O : SS) (Xz : SS) (r : Int32) (hf : f_X6_clear X = some (Xz, r)) (sz : Nat) : vx_Met l yX6_clear ws_X6_clear rm_X6_clear (va_Pc [.ref (Z.2.2 0 0)] (cP Z (X, M, O) sz)) (cQi Z (Xz, M, O) (.inl r) sz) (cX Z (Xz, M, O) (.inl r : Int32 ⊕ String) sz) 0 0 (wA Z sz) := by
  refine vx_ofW (cc := cX6_clear) (maxL := 2) (ret := (some .int)) (by decide) rfl ?_
  intro p e s m args below meth c s₁ B hml htab hv
  obtain ⟨hargs, hsz, hE, hP, hK⟩ := hv
  have hx := B.exec
  have hb := B.bytes
  have hr := B.returns
  have hts0 := atoms_spec (ws := ws_X6_clear) B.pre
  have hts : ∀ w ∈ lw_all, w.before args s = true := fun w h => hts0 w (List.mem_cons_of_mem _ h)
  have hown : s.vm.findClass RX6 = some m.cls := findClass_of_methodNamed B.named
  have hlocks := B.notSynchronized
  have hout9 : ∀ (pc9 : Nat), ∀ x ∈ c.exceptionTable.toList, covers x pc9 = false := fun _ x hx9 => (htab x hx9).elim
  subst hsz
  have hS : va_S (wA Z s.heap.size) s.heap s.heap [] := va_S.rf
  have hl := lv_entry ([.ref (Z.2.2 0 0)]) (n := 2) (Nat.le_of_ble_eq_true rfl)
  have hen : entryFrame m args 2 = entryFrame m ([.ref (Z.2.2 0 0)] : List Value).toArray 2 := by rw [hargs]
  rw [hen, lg_entry_eq]
  generalize (lg_sl ([.ref (Z.2.2 0 0)]) ++ List.replicate (2 - (lg_sl ([.ref (Z.2.2 0 0)])).length) Slot.unset).toArray = ls at hl ⊢
  have hl : lv_has ls 2 [(0, .ref (Z.2.2 0 0))] := hl
  have hk := hf
  unfold f_X6_clear at hk
  refine lv_aload_n hx hb dX6_clear_0 rfl (lv_at hl 0 rfl) ?_
  refine gf_RX6_19 hx hb hts hown hK hP (by decide) dX6_clear_1 ?_
  refine gf_RX6_123 hx hb hts hown hK hP (by decide) dX6_clear_4 ?_
  refine lv_aload_n hx hb dX6_clear_7 rfl (lv_at hl 0 rfl) ?_
  refine gf_RX6_19 hx hb hts hown hK hP (by decide) dX6_clear_8 ?_
  refine gf_RX6_120 hx hb hts hown hK hP (by decide) dX6_clear_11 ?_
  refine lv_iadd hx hb dX6_clear_14 ?_
  obtain ⟨v1, ev1, hk⟩ := lq_s hk
  refine W.eq (g2 := F0 m 15 ls [.int v1]) (by rw [ev1]) ?_
  refine lv_istore_n (lv' := [(1, .int v1), (0, .ref (Z.2.2 0 0))]) hx hb dX6_clear_15 rfl hl (by decide) rfl (fun ls hl => ?_)
  refine lv_aload_n hx hb dX6_clear_16 rfl (lv_at hl 1 rfl) ?_
  refine gf_RX6_19 hx hb hts hown hK hP (by decide) dX6_clear_17 ?_
  obtain ⟨X3, v2, hf4, hk⟩ := b1_s hk
  refine wc_vV0 (rest := []) (As := []) ⟨hx, hb, hml, hown, hts⟩ (fun sz => k_X4_erase l hfl Z hZ X M O 40 (by decide) X3 v2 hf4 sz) (cw_RX6_134 (args := args) (s := s) hts (Nat.le_of_ble_eq_true rfl) (Nat.le_of_ble_eq_true rfl)) hE hP hK hS (rv_4 hK hP (by decide)) rfl hl.1 rfl (Nat.le_of_ble_eq_true rfl) dX6_clear_20 ⟨Nat.le_of_ble_eq_true rfl, Nat.le_of_ble_eq_true rfl⟩ (fun H locs hP hS => ?_)
  refine lv_iload_n hx hb dX6_clear_23 rfl (lv_at hl 0 rfl) ?_
  cases (show some _ = some _ from hk)
  exact we_i hx hb hr hlocks hP rfl hS dX6_clear_24 (by decide) (by decide)
set_option maxHeartbeats 4000000 in
set_option maxRecDepth 100000 in
theorem k_X6_kata (l : Launch) (hfl : l.stackTraces = false) (Z : ZT) (hZ : wD Z) (X M O : SS) (p0 : Int32) (Xz : SS) (o : Int32 ⊕ String) (hf : f_X6_kata X p0 = some (Xz, o)) (sz : Nat) : vx_Met l yX6_kata ws_X6_kata rm_X6_kata (va_Pc [.ref (Z.2.2 0 0), .int p0] (cP Z (X, M, O) sz)) (cQi Z (Xz, M, O) o sz) (cX Z (Xz, M, O) o sz) 1 6 (wA Z sz) := by
  refine vx_ofW (cc := cX6_kata) (maxL := 2) (ret := (some .int)) (by decide) rfl ?_
  intro p e s m args below meth c s₁ B hml htab hv
  obtain ⟨hargs, hsz, hE, hP, hK⟩ := hv
  have hx := B.exec
  have hb := B.bytes
  have hr := B.returns
  have hts0 := atoms_spec (ws := ws_X6_kata) B.pre
  have hts : ∀ w ∈ lw_all, w.before args s = true := fun w h => hts0 w (List.mem_cons_of_mem _ h)
  have hown : s.vm.findClass RX6 = some m.cls := findClass_of_methodNamed B.named
  have hlocks := B.notSynchronized
  have hout9 : ∀ (pc9 : Nat), ∀ x ∈ c.exceptionTable.toList, covers x pc9 = false := fun _ x hx9 => (htab x hx9).elim
  subst hsz
  have hS : va_S (wA Z s.heap.size) s.heap s.heap [] := va_S.rf
  have hl := lv_entry ([.ref (Z.2.2 0 0), .int p0]) (n := 2) (Nat.le_of_ble_eq_true rfl)
  have hen : entryFrame m args 2 = entryFrame m ([.ref (Z.2.2 0 0), .int p0] : List Value).toArray 2 := by rw [hargs]
  rw [hen, lg_entry_eq]
  generalize (lg_sl ([.ref (Z.2.2 0 0), .int p0]) ++ List.replicate (2 - (lg_sl ([.ref (Z.2.2 0 0), .int p0])).length) Slot.unset).toArray = ls at hl ⊢
  have hl : lv_has ls 2 [(0, .ref (Z.2.2 0 0)), (1, .int p0)] := hl
  have hk := hf
  unfold f_X6_kata at hk
  refine lv_iload_n hx hb dX6_kata_0 rfl (lv_at hl 1 rfl) ?_
  refine lv_iconst (v := (1 : Int32)) hx hb dX6_kata_1 (by decide) ?_
  refine lv_icmp_lt (tgt := 10) hx hb dX6_kata_2 (by decide) (fun cz1 => ?_) (fun cz1 => ?_)
  · have hk := it_t cz1 hk
    cases (show some _ = some _ from hk)
    obtain ⟨sa, hstr⟩ := EV.str hE (own := RX6) (k := 135) (tx := "the level is out of range") (by decide +kernel)
    exact vx_throwS (mc := 1) (ms := 6) (names := ["java/lang/RuntimeException", "java/lang/Exception"]) hx hb hfl hown (by decide +kernel) (by decide +kernel) (hts _ q629) (hts _ q94) hstr (th_96 hE hts) (by decide +kernel) (EV.zu hE) (EV.zn hE) hS (hl.1.trans hml.symm) dX6_kata_10 dX6_kata_13 dX6_kata_14 dX6_kata_16 dX6_kata_19 (hout9 _) (Nat.le_of_ble_eq_true rfl) (Nat.le_of_ble_eq_true rfl) (Nat.le_of_ble_eq_true rfl) (Nat.le_of_ble_eq_true rfl) hlocks (fun t9 _ h8 h9 => ⟨(), trivial, ⟨rfl, wP_kept hP h9⟩, fF hS h8 h9⟩) hS.2.2 (by decide) (by decide)
  · have hk := it_f cz1 hk
    refine lv_iload_n hx hb dX6_kata_5 rfl (lv_at hl 1 rfl) ?_
    refine lv_iconst (v := (5 : Int32)) hx hb dX6_kata_6 (by decide) ?_
    refine lv_icmp_le (tgt := 20) hx hb dX6_kata_7 (by decide) (fun cz2 => ?_) (fun cz2 => ?_)
    · have hk := it_t cz2 hk
      refine lv_aload_n hx hb dX6_kata_20 rfl (lv_at hl 0 rfl) ?_
      refine gf_RX6_58 hx hb hts hown hK hP (by decide) dX6_kata_21 ?_
      refine lv_bipush (v := (8 : Int32)) hx hb dX6_kata_24 (by decide) ?_
      refine lv_icmp_lt (tgt := 39) hx hb dX6_kata_26 (by decide) (fun cz3 => ?_) (fun cz3 => ?_)
      · have hk := it_t cz3 hk
        refine lv_aload_n hx hb dX6_kata_39 rfl (lv_at hl 0 rfl) ?_
        refine gf_RX6_25 hx hb hts hown hK hP (by decide) dX6_kata_40 ?_
        refine lv_aload_n hx hb dX6_kata_43 rfl (lv_at hl 0 rfl) ?_
        refine gf_RX6_58 hx hb hts hown hK hP (by decide) dX6_kata_44 ?_
        obtain ⟨hg4, hk⟩ := gd_s hk
        refine wa_aaload_21 hx hb hK hP (by decide) hg4 dX6_kata_47 ?_
        refine lv_iload_n hx hb dX6_kata_48 rfl (lv_at hl 1 rfl) ?_
        obtain ⟨X5, eX5, hk⟩ := lq_s hk
        refine pf_RX6_139 hx hb hts hown hZ hK hP hS (vp_lt hg4) dX6_kata_49 (fun H locs hP hS => ?_)
        rw [← eX5] at hP
        refine lv_aload_n hx hb dX6_kata_52 rfl (lv_at hl 0 rfl) ?_
        refine lv_dup hx hb dX6_kata_53 rfl ?_
        refine gf_RX6_58 hx hb hts hown hK hP (by decide) dX6_kata_54 ?_
        refine lv_iconst (v := (1 : Int32)) hx hb dX6_kata_57 (by decide) ?_
        refine lv_iadd hx hb dX6_kata_58 ?_
        obtain ⟨X6, eX6, hk⟩ := lq_s hk
        refine pf_RX6_58 hx hb hts hown hZ hK hP hS (by decide) dX6_kata_59 (fun H locs hP hS => ?_)
        rw [← eX6] at hP
        refine lv_aload_n hx hb dX6_kata_62 rfl (lv_at hl 0 rfl) ?_
        refine gf_RX6_58 hx hb hts hown hK hP (by decide) dX6_kata_63 ?_
        refine lv_iconst (v := (1 : Int32)) hx hb dX6_kata_66 (by decide) ?_
        refine lv_isub hx hb dX6_kata_67 ?_
        cases (show some _ = some _ from hk)
        exact we_i hx hb hr hlocks hP rfl hS dX6_kata_68 (by decide) (by decide)
      · have hk := it_f cz3 hk
        cases (show some _ = some _ from hk)
        obtain ⟨sa, hstr⟩ := EV.str hE (own := RX6) (k := 137) (tx := "there are 8 katas") (by decide +kernel)
        exact vx_throwS (mc := 1) (ms := 6) (names := ["java/lang/RuntimeException", "java/lang/Exception"]) hx hb hfl hown (by decide +kernel) (by decide +kernel) (hts _ q705) (hts _ q95) hstr (th_112 hE hts) (by decide +kernel) (EV.zu hE) (EV.zn hE) hS (hl.1.trans hml.symm) dX6_kata_29 dX6_kata_32 dX6_kata_33 dX6_kata_35 dX6_kata_38 (hout9 _) (Nat.le_of_ble_eq_true rfl) (Nat.le_of_ble_eq_true rfl) (Nat.le_of_ble_eq_true rfl) (Nat.le_of_ble_eq_true rfl) hlocks (fun t9 _ h8 h9 => ⟨(), trivial, ⟨rfl, wP_kept hP h9⟩, fF hS h8 h9⟩) hS.2.2 (by decide) (by decide)
    · have hk := it_f cz2 hk
      cases (show some _ = some _ from hk)
      obtain ⟨sa, hstr⟩ := EV.str hE (own := RX6) (k := 135) (tx := "the level is out of range") (by decide +kernel)
      exact vx_throwS (mc := 1) (ms := 6) (names := ["java/lang/RuntimeException", "java/lang/Exception"]) hx hb hfl hown (by decide +kernel) (by decide +kernel) (hts _ q629) (hts _ q94) hstr (th_96 hE hts) (by decide +kernel) (EV.zu hE) (EV.zn hE) hS (hl.1.trans hml.symm) dX6_kata_10 dX6_kata_13 dX6_kata_14 dX6_kata_16 dX6_kata_19 (hout9 _) (Nat.le_of_ble_eq_true rfl) (Nat.le_of_ble_eq_true rfl) (Nat.le_of_ble_eq_true rfl) (Nat.le_of_ble_eq_true rfl) hlocks (fun t9 _ h8 h9 => ⟨(), trivial, ⟨rfl, wP_kept hP h9⟩, fF hS h8 h9⟩) hS.2.2 (by decide) (by decide)
set_option maxHeartbeats 4000000 in
set_option maxRecDepth 100000 in
theorem k_X6_kataAt (l : Launch) (hfl : l.stackTraces = false) (Z : ZT) (hZ : wD Z) (X M O : SS) (p0 : Int32) (o : Nat ⊕ String) (hf : f_X6_kataAt X p0 = some (o)) (sz : Nat) : vx_Met l yX6_kataAt ws_X6_kataAt rm_X6_kataAt (va_Pc [.ref (Z.2.2 0 0), .int p0] (cP Z (X, M, O) sz)) (cQq Z 7 (X, M, O) o sz) (cX Z (X, M, O) o sz) 1 6 (wA Z sz) := by
  refine vx_ofW (cc := cX6_kataAt) (maxL := 2) (ret := (some (.object "Katacode$Kata"))) (by decide) rfl ?_
  intro p e s m args below meth c s₁ B hml htab hv
  obtain ⟨hargs, hsz, hE, hP, hK⟩ := hv
  have hx := B.exec
  have hb := B.bytes
  have hr := B.returns
  have hts0 := atoms_spec (ws := ws_X6_kataAt) B.pre
  have hts : ∀ w ∈ lw_all, w.before args s = true := fun w h => hts0 w (List.mem_cons_of_mem _ h)
  have hown : s.vm.findClass RX6 = some m.cls := findClass_of_methodNamed B.named
  have hlocks := B.notSynchronized
  have hout9 : ∀ (pc9 : Nat), ∀ x ∈ c.exceptionTable.toList, covers x pc9 = false := fun _ x hx9 => (htab x hx9).elim
  subst hsz
  have hS : va_S (wA Z s.heap.size) s.heap s.heap [] := va_S.rf
  have hl := lv_entry ([.ref (Z.2.2 0 0), .int p0]) (n := 2) (Nat.le_of_ble_eq_true rfl)
  have hen : entryFrame m args 2 = entryFrame m ([.ref (Z.2.2 0 0), .int p0] : List Value).toArray 2 := by rw [hargs]
  rw [hen, lg_entry_eq]
  generalize (lg_sl ([.ref (Z.2.2 0 0), .int p0]) ++ List.replicate (2 - (lg_sl ([.ref (Z.2.2 0 0), .int p0])).length) Slot.unset).toArray = ls at hl ⊢
  have hl : lv_has ls 2 [(0, .ref (Z.2.2 0 0)), (1, .int p0)] := hl
  have hk := hf
  unfold f_X6_kataAt at hk
  refine lv_iload_n hx hb dX6_kataAt_0 rfl (lv_at hl 1 rfl) ?_
  refine lv_if_lt (tgt := 12) hx hb dX6_kataAt_1 (by decide) (fun cz1 => ?_) (fun cz1 => ?_)
  · have hk := it_t cz1 hk
    cases (show some _ = some _ from hk)
    obtain ⟨sa, hstr⟩ := EV.str hE (own := RX6) (k := 406) (tx := "no such kata") (by decide +kernel)
    exact vx_throwSW (mc := 1) (ms := 6) (names := ["java/lang/RuntimeException", "java/lang/Exception"]) hx hb hfl hown (by decide +kernel) (by decide +kernel) (hts _ q785) (hts _ q96) hstr (th_408 hE hts) (by decide +kernel) (EV.zu hE) (EV.zn hE) hS (hl.1.trans hml.symm) dX6_kataAt_12 dX6_kataAt_15 dX6_kataAt_16 dX6_kataAt_19 dX6_kataAt_22 (hout9 _) (Nat.le_of_ble_eq_true rfl) (Nat.le_of_ble_eq_true rfl) (Nat.le_of_ble_eq_true rfl) (Nat.le_of_ble_eq_true rfl) hlocks (fun t9 _ h8 h9 => ⟨(), trivial, ⟨rfl, wP_kept hP h9⟩, fF hS h8 h9⟩) hS.2.2 (by decide) (by decide)
  · have hk := it_f cz1 hk
    refine lv_iload_n hx hb dX6_kataAt_4 rfl (lv_at hl 1 rfl) ?_
    refine lv_aload_n hx hb dX6_kataAt_5 rfl (lv_at hl 0 rfl) ?_
    refine gf_RX6_58 hx hb hts hown hK hP (by decide) dX6_kataAt_6 ?_
    refine lv_icmp_lt (tgt := 23) hx hb dX6_kataAt_9 (by decide) (fun cz2 => ?_) (fun cz2 => ?_)
    · have hk := it_t cz2 hk
      refine lv_aload_n hx hb dX6_kataAt_23 rfl (lv_at hl 0 rfl) ?_
      refine gf_RX6_25 hx hb hts hown hK hP (by decide) dX6_kataAt_24 ?_
      refine lv_iload_n hx hb dX6_kataAt_27 rfl (lv_at hl 1 rfl) ?_
      obtain ⟨hg3, hk⟩ := gd_s hk
      refine wa_aaload_21 hx hb hK hP (by decide) hg3 dX6_kataAt_28 ?_
      cases (show some _ = some _ from hk)
      exact we_q (kd := 7) (i := (p0).toNatClampNeg) hx hb hr hlocks (Or.inl ⟨_, rfl⟩) hP (vp_lt hg3) rfl hS dX6_kataAt_29 (by decide) (by decide)
    · have hk := it_f cz2 hk
      cases (show some _ = some _ from hk)
      obtain ⟨sa, hstr⟩ := EV.str hE (own := RX6) (k := 406) (tx := "no such kata") (by decide +kernel)
      exact vx_throwSW (mc := 1) (ms := 6) (names := ["java/lang/RuntimeException", "java/lang/Exception"]) hx hb hfl hown (by decide +kernel) (by decide +kernel) (hts _ q785) (hts _ q96) hstr (th_408 hE hts) (by decide +kernel) (EV.zu hE) (EV.zn hE) hS (hl.1.trans hml.symm) dX6_kataAt_12 dX6_kataAt_15 dX6_kataAt_16 dX6_kataAt_19 dX6_kataAt_22 (hout9 _) (Nat.le_of_ble_eq_true rfl) (Nat.le_of_ble_eq_true rfl) (Nat.le_of_ble_eq_true rfl) (Nat.le_of_ble_eq_true rfl) hlocks (fun t9 _ h8 h9 => ⟨(), trivial, ⟨rfl, wP_kept hP h9⟩, fF hS h8 h9⟩) hS.2.2 (by decide) (by decide)
set_option maxHeartbeats 4000000 in
set_option maxRecDepth 100000 in
theorem k_X6_passesAll (l : Launch) (hfl : l.stackTraces = false) (Z : ZT) (hZ : wD Z) (X M O : SS) (i1 : Nat) (i2 : Nat) (hi1 : i1 < 71) (hi2 : i2 < 8) (Xz : SS) (r : Int32) (hf : f_X6_passesAll X i1 i2 = some (Xz, r)) (sz : Nat) : vx_Met l yX6_passesAll ws_X6_passesAll rm_X6_passesAll (va_Pc [.ref (Z.2.2 0 0), .ref (Z.2.2 1 i1), .ref (Z.2.2 7 i2)] (cP Z (X, M, O) sz)) (cQi Z (Xz, M, O) (.inl r) sz) (cX Z (Xz, M, O) (.inl r : Int32 ⊕ String) sz) 0 0 (wA Z sz) := by
  refine vx_ofW (cc := cX6_passesAll) (maxL := 4) (ret := (some .boolean)) (by decide) rfl ?_
  intro p e s m args below meth c s₁ B hml htab hv
  obtain ⟨hargs, hsz, hE, hP, hK⟩ := hv
  have hx := B.exec
  have hb := B.bytes
  have hr := B.returns
  have hts0 := atoms_spec (ws := ws_X6_passesAll) B.pre
  have hts : ∀ w ∈ lw_all, w.before args s = true := fun w h => hts0 w (List.mem_cons_of_mem _ h)
  have hown : s.vm.findClass RX6 = some m.cls := findClass_of_methodNamed B.named
  have hlocks := B.notSynchronized
  have hout9 : ∀ (pc9 : Nat), ∀ x ∈ c.exceptionTable.toList, covers x pc9 = false := fun _ x hx9 => (htab x hx9).elim
  subst hsz
  have hS : va_S (wA Z s.heap.size) s.heap s.heap [] := va_S.rf
  have hl := lv_entry ([.ref (Z.2.2 0 0), .ref (Z.2.2 1 i1), .ref (Z.2.2 7 i2)]) (n := 4) (Nat.le_of_ble_eq_true rfl)
  have hen : entryFrame m args 4 = entryFrame m ([.ref (Z.2.2 0 0), .ref (Z.2.2 1 i1), .ref (Z.2.2 7 i2)] : List Value).toArray 4 := by rw [hargs]
  rw [hen, lg_entry_eq]
  generalize (lg_sl ([.ref (Z.2.2 0 0), .ref (Z.2.2 1 i1), .ref (Z.2.2 7 i2)]) ++ List.replicate (4 - (lg_sl ([.ref (Z.2.2 0 0), .ref (Z.2.2 1 i1), .ref (Z.2.2 7 i2)])).length) Slot.unset).toArray = ls at hl ⊢
  have hl : lv_has ls 4 [(0, .ref (Z.2.2 0 0)), (1, .ref (Z.2.2 1 i1)), (2, .ref (Z.2.2 7 i2))] := hl
  have hk := hf
  unfold f_X6_passesAll at hk
  refine lv_iconst (v := (0 : Int32)) hx hb dX6_passesAll_0 (by decide) ?_
  refine lv_istore_n (lv' := [(3, .int (0 : Int32)), (0, .ref (Z.2.2 0 0)), (1, .ref (Z.2.2 1 i1)), (2, .ref (Z.2.2 7 i2))]) hx hb dX6_passesAll_1 rfl hl (by decide) rfl (fun ls hl => ?_)
  obtain ⟨k1, hk1, hk⟩ := gn hk
  have ex1 : ∀ (X2 : SS) (H : Heap) (locs : List Loc) (ls : Array Slot), k1 X2 = some (Xz, r) → wP Z (X2, M, O) H → va_S (wA Z s.heap.size) s.heap H locs → lv_has ls 4 [] → W p l e (headSpec ws_X6_passesAll rm_X6_passesAll).room s m args below meth c H locs 0 0 (vx_MQ below (cQi Z (Xz, M, O) (.inl r) s.heap.size) (cX Z (Xz, M, O) (.inl r : Int32 ⊕ String) s.heap.size) args s 0 0 (wA Z s.heap.size)) (F0 m 37 ls []) := by
    intro X2 H locs ls hk hP hS hl
    subst hk1
    refine lv_iconst (v := (1 : Int32)) hx hb dX6_passesAll_37 (by decide) ?_
    cases (show some _ = some _ from hk)
    exact we_z hx hb hr hlocks (show okz (1 : Int32) by unfold okz; decide).1 hP rfl hS dX6_passesAll_38 (by decide) (by decide)
  have lp1 : ∀ (n : Nat) (v3 : Int32) (X4 : SS) (H : Heap) (locs : List Loc) (ls : Array Slot), f_X6_passesAll_L2 i2 i1 n v3 X4 k1 = some (Xz, r) → wP Z (X4, M, O) H → va_S (wA Z s.heap.size) s.heap H locs → lv_has ls 4 [(3, .int v3), (0, .ref (Z.2.2 0 0)), (1, .ref (Z.2.2 1 i1)), (2, .ref (Z.2.2 7 i2))] → W p l e (headSpec ws_X6_passesAll rm_X6_passesAll).room s m args below meth c H locs 0 0 (vx_MQ below (cQi Z (Xz, M, O) (.inl r) s.heap.size) (cX Z (Xz, M, O) (.inl r : Int32 ⊕ String) s.heap.size) args s 0 0 (wA Z s.heap.size)) (F0 m 2 ls []) := by
    intro n
    induction n with
    | zero =>
      intro v3 X4 H locs ls hk
      rw [f_X6_passesAll_L2] at hk
      exact nomatch (show none = some _ from hk)
    | succ n ih =>
      intro v3 X4 H locs ls hk hP hS hl
      rw [f_X6_passesAll_L2] at hk
      refine lv_iload_n hx hb dX6_passesAll_2 rfl (lv_at hl 0 rfl) ?_
      refine lv_aload_n hx hb dX6_passesAll_3 rfl (lv_at hl 3 rfl) ?_
      refine gf_RX6_146 hx hb hts hown hK hP hi2 dX6_passesAll_4 ?_
      refine lv_icmp_ge (tgt := 37) hx hb dX6_passesAll_7 (by decide) (fun cz5 => ?_) (fun cz5 => ?_)
      · have hk := it_t cz5 hk
        exact ex1 X4 _ _ _ hk hP hS (lv_sub hl [] rfl)
      · have hk := it_f cz5 hk
        refine lv_aload_n hx hb dX6_passesAll_10 rfl (lv_at hl 1 rfl) ?_
        refine gf_RX6_55 hx hb hts hown hK hP (by decide) dX6_passesAll_11 ?_
        refine lv_aload_n hx hb dX6_passesAll_14 rfl (lv_at hl 2 rfl) ?_
        refine lv_aload_n hx hb dX6_passesAll_15 rfl (lv_at hl 3 rfl) ?_
        refine gf_RX6_151 hx hb hts hown hK hP hi2 dX6_passesAll_16 ?_
        refine lv_iload_n hx hb dX6_passesAll_19 rfl (lv_at hl 0 rfl) ?_
        obtain ⟨hg6, hk⟩ := gd_s hk
        refine wa_aaload_8 hx hb hK hP hi2 hg6 dX6_passesAll_20 ?_
        obtain ⟨X8, v7, hf9, hk⟩ := b1_s hk
        refine wc_iV0 (rest := []) (As := [.ref (Z.2.2 1 i1), .ref (Z.2.2 4 (5 * i2 + (v3).toNatClampNeg))]) ⟨hx, hb, hml, hown, hts⟩ (fun sz => k_X1_execute l hfl Z hZ X4 M O 1 i1 (5 * i2 + (v3).toNatClampNeg) (by decide) hi1 (lt_T hi2 (vp_lt hg6)) X8 v7 hf9 sz) (cw_RX6_172 (args := args) (s := s) hts (Nat.le_of_ble_eq_true rfl) (Nat.le_of_ble_eq_true rfl)) hE hP hK hS (rv_16 hK hP (by decide)) rfl hl.1 rfl (Nat.le_of_ble_eq_true rfl) dX6_passesAll_21 ⟨Nat.le_of_ble_eq_true rfl, Nat.le_of_ble_eq_true rfl⟩ (fun H locs hP hS => ?_)
        refine lv_bipush (v := (111 : Int32)) hx hb dX6_passesAll_24 (by decide) ?_
        refine lv_icmp_eq (tgt := 31) hx hb dX6_passesAll_26 (by decide) (fun cz10 => ?_) (fun cz10 => ?_)
        · have hk := it_t cz10 hk
          refine lv_iinc (v := (v3 + (1 : Int32))) (lv' := [(3, .int (v3 + (1 : Int32))), (0, .ref (Z.2.2 0 0)), (1, .ref (Z.2.2 1 i1)), (2, .ref (Z.2.2 7 i2))]) hx hb dX6_passesAll_31 hl (k := 0) rfl rfl (by decide) rfl (fun ls hl => ?_)
          refine lv_goto (tgt := 2) hx hb dX6_passesAll_34 (by decide) ?_
          exact ih (v3 + (1 : Int32)) X8 _ _ _ hk hP hS (lv_sub hl [0, 1, 2, 3] rfl)
        · have hk := it_f cz10 hk
          refine lv_iconst (v := (0 : Int32)) hx hb dX6_passesAll_29 (by decide) ?_
          cases (show some _ = some _ from hk)
          exact we_z hx hb hr hlocks (show okz (0 : Int32) by unfold okz; decide).1 hP rfl hS dX6_passesAll_30 (by decide) (by decide)
  exact lp1 1000 (0 : Int32) X _ _ _ hk hP hS (lv_sub hl [0, 1, 2, 3] rfl)
set_option maxHeartbeats 4000000 in
set_option maxRecDepth 100000 in
theorem k_X6_verdictOn (l : Launch) (hfl : l.stackTraces = false) (Z : ZT) (hZ : wD Z) (X M O : SS) (i1 : Nat) (hi1 : i1 < 40) (Xz : SS) (r : Int32) (hf : f_X6_verdictOn X i1 = some (Xz, r)) (sz : Nat) : vx_Met l yX6_verdictOn ws_X6_verdictOn rm_X6_verdictOn (va_Pc [.ref (Z.2.2 0 0), .ref (Z.2.2 12 i1)] (cP Z (X, M, O) sz)) (cQi Z (Xz, M, O) (.inl r) sz) (cX Z (Xz, M, O) (.inl r : Int32 ⊕ String) sz) 0 0 (wA Z sz) := by
  refine vx_ofW (cc := cX6_verdictOn) (maxL := 2) (ret := (some .char)) (by decide) rfl ?_
  intro p e s m args below meth c s₁ B hml htab hv
  obtain ⟨hargs, hsz, hE, hP, hK⟩ := hv
  have hx := B.exec
  have hb := B.bytes
  have hr := B.returns
  have hts0 := atoms_spec (ws := ws_X6_verdictOn) B.pre
  have hts : ∀ w ∈ lw_all, w.before args s = true := fun w h => hts0 w (List.mem_cons_of_mem _ h)
  have hown : s.vm.findClass RX6 = some m.cls := findClass_of_methodNamed B.named
  have hlocks := B.notSynchronized
  have hout9 : ∀ (pc9 : Nat), ∀ x ∈ c.exceptionTable.toList, covers x pc9 = false := fun _ x hx9 => (htab x hx9).elim
  subst hsz
  have hS : va_S (wA Z s.heap.size) s.heap s.heap [] := va_S.rf
  have hl := lv_entry ([.ref (Z.2.2 0 0), .ref (Z.2.2 12 i1)]) (n := 2) (Nat.le_of_ble_eq_true rfl)
  have hen : entryFrame m args 2 = entryFrame m ([.ref (Z.2.2 0 0), .ref (Z.2.2 12 i1)] : List Value).toArray 2 := by rw [hargs]
  rw [hen, lg_entry_eq]
  generalize (lg_sl ([.ref (Z.2.2 0 0), .ref (Z.2.2 12 i1)]) ++ List.replicate (2 - (lg_sl ([.ref (Z.2.2 0 0), .ref (Z.2.2 12 i1)])).length) Slot.unset).toArray = ls at hl ⊢
  have hl : lv_has ls 2 [(0, .ref (Z.2.2 0 0)), (1, .ref (Z.2.2 12 i1))] := hl
  have hk := hf
  unfold f_X6_verdictOn at hk
  refine lv_aload_n hx hb dX6_verdictOn_0 rfl (lv_at hl 0 rfl) ?_
  refine lv_aload_n hx hb dX6_verdictOn_1 rfl (lv_at hl 1 rfl) ?_
  refine gf_RX6_255 hx hb hts hown hK hP hi1 dX6_verdictOn_2 ?_
  refine lv_aload_n hx hb dX6_verdictOn_5 rfl (lv_at hl 0 rfl) ?_
  refine gf_RX6_25 hx hb hts hown hK hP (by decide) dX6_verdictOn_6 ?_
  refine lv_aload_n hx hb dX6_verdictOn_9 rfl (lv_at hl 1 rfl) ?_
  refine gf_RX6_226 hx hb hts hown hK hP hi1 dX6_verdictOn_10 ?_
  obtain ⟨hg1, hk⟩ := gd_s hk
  refine wa_aaload_21 hx hb hK hP (by decide) hg1 dX6_verdictOn_13 ?_
  obtain ⟨X3, v2, hf4, hk⟩ := b1_s hk
  refine wc_iV0 (rest := []) (As := [.ref (Z.2.2 1 (i1 + 1)), .ref (Z.2.2 7 ((X.1 12 i1 8)).toNatClampNeg)]) ⟨hx, hb, hml, hown, hts⟩ (fun sz => k_X6_passesAll l hfl Z hZ X M O (i1 + 1) ((X.1 12 i1 8)).toNatClampNeg (lt_B hi1) (vp_lt hg1) X3 v2 hf4 sz) (cw_RX6_207 (args := args) (s := s) hts (Nat.le_of_ble_eq_true rfl) (Nat.le_of_ble_eq_true rfl)) hE hP hK hS (rv_0 hK hP (by decide)) rfl hl.1 rfl (Nat.le_of_ble_eq_true rfl) dX6_verdictOn_14 ⟨Nat.le_of_ble_eq_true rfl, Nat.le_of_ble_eq_true rfl⟩ (fun H locs hP hS => ?_)
  refine lv_if_eq (tgt := 25) hx hb dX6_verdictOn_17 (by decide) (fun cz5 => ?_) (fun cz5 => ?_)
  · have hk := it_t cz5 hk
    refine lv_bipush (v := (102 : Int32)) hx hb dX6_verdictOn_25 (by decide) ?_
    cases (show some _ = some _ from hk)
    exact we_z hx hb hr hlocks (show okc (102 : Int32) by unfold okc; decide).1 hP rfl hS dX6_verdictOn_27 (by decide) (by decide)
  · have hk := it_f cz5 hk
    refine lv_bipush (v := (115 : Int32)) hx hb dX6_verdictOn_20 (by decide) ?_
    refine lv_goto (tgt := 27) hx hb dX6_verdictOn_22 (by decide) ?_
    cases (show some _ = some _ from hk)
    exact we_z hx hb hr hlocks (show okc (115 : Int32) by unfold okc; decide).1 hP rfl hS dX6_verdictOn_27 (by decide) (by decide)
set_option maxHeartbeats 4000000 in
set_option maxRecDepth 100000 in
theorem k_X6_setTest (l : Launch) (hfl : l.stackTraces = false) (Z : ZT) (hZ : wD Z) (X M O : SS) (p0 : Int32) (i2 : Nat) (hi2 : i2 < 41) (Xz : SS) (r : Int32) (hf : f_X6_setTest X p0 i2 = some (Xz, r)) (sz : Nat) : vx_Met l yX6_setTest ws_X6_setTest rm_X6_setTest (va_Pc [.ref (Z.2.2 0 0), .int p0, .ref (Z.2.2 4 i2)] (cP Z (X, M, O) sz)) (cQi Z (Xz, M, O) (.inl r) sz) (cX Z (Xz, M, O) (.inl r : Int32 ⊕ String) sz) 0 0 (wA Z sz) := by
  refine vx_ofW (cc := cX6_setTest) (maxL := 7) (ret := (some .int)) (by decide) rfl ?_
  intro p e s m args below meth c s₁ B hml htab hv
  obtain ⟨hargs, hsz, hE, hP, hK⟩ := hv
  have hx := B.exec
  have hb := B.bytes
  have hr := B.returns
  have hts0 := atoms_spec (ws := ws_X6_setTest) B.pre
  have hts : ∀ w ∈ lw_all, w.before args s = true := fun w h => hts0 w (List.mem_cons_of_mem _ h)
  have hown : s.vm.findClass RX6 = some m.cls := findClass_of_methodNamed B.named
  have hlocks := B.notSynchronized
  have hout9 : ∀ (pc9 : Nat), ∀ x ∈ c.exceptionTable.toList, covers x pc9 = false := fun _ x hx9 => (htab x hx9).elim
  subst hsz
  have hS : va_S (wA Z s.heap.size) s.heap s.heap [] := va_S.rf
  have hl := lv_entry ([.ref (Z.2.2 0 0), .int p0, .ref (Z.2.2 4 i2)]) (n := 7) (Nat.le_of_ble_eq_true rfl)
  have hen : entryFrame m args 7 = entryFrame m ([.ref (Z.2.2 0 0), .int p0, .ref (Z.2.2 4 i2)] : List Value).toArray 7 := by rw [hargs]
  rw [hen, lg_entry_eq]
  generalize (lg_sl ([.ref (Z.2.2 0 0), .int p0, .ref (Z.2.2 4 i2)]) ++ List.replicate (7 - (lg_sl ([.ref (Z.2.2 0 0), .int p0, .ref (Z.2.2 4 i2)])).length) Slot.unset).toArray = ls at hl ⊢
  have hl : lv_has ls 7 [(0, .ref (Z.2.2 0 0)), (1, .int p0), (2, .ref (Z.2.2 4 i2))] := hl
  have hk := hf
  unfold f_X6_setTest at hk
  refine lv_aload_n hx hb dX6_setTest_0 rfl (lv_at hl 0 rfl) ?_
  refine lv_dup hx hb dX6_setTest_1 rfl ?_
  refine gf_RX6_74 hx hb hts hown hK hP (by decide) dX6_setTest_2 ?_
  refine lv_iconst (v := (1 : Int32)) hx hb dX6_setTest_5 (by decide) ?_
  refine lv_iadd hx hb dX6_setTest_6 ?_
  obtain ⟨X1, eX1, hk⟩ := lq_s hk
  refine pf_RX6_74 hx hb hts hown hZ hK hP hS (by decide) dX6_setTest_7 (fun H locs hP hS => ?_)
  rw [← eX1] at hP
  refine lv_aload_n hx hb dX6_setTest_10 rfl (lv_at hl 2 rfl) ?_
  refine lv_aload_n hx hb dX6_setTest_11 rfl (lv_at hl 0 rfl) ?_
  refine gf_RX6_19 hx hb hts hown hK hP (by decide) dX6_setTest_12 ?_
  obtain ⟨X3, v2, hf4, hk⟩ := b1_s hk
  refine wc_vV0 (rest := []) (As := [.ref (Z.2.2 4 40)]) ⟨hx, hb, hml, hown, hts⟩ (fun sz => k_X4_take l hfl Z hZ X1 M O i2 40 hi2 (by decide) X3 v2 hf4 sz) (cw_RX6_417 (args := args) (s := s) hts (Nat.le_of_ble_eq_true rfl) (Nat.le_of_ble_eq_true rfl)) hE hP hK hS (rv_4 hK hP hi2) rfl hl.1 rfl (Nat.le_of_ble_eq_true rfl) dX6_setTest_15 ⟨Nat.le_of_ble_eq_true rfl, Nat.le_of_ble_eq_true rfl⟩ (fun H locs hP hS => ?_)
  refine lv_aload_n hx hb dX6_setTest_18 rfl (lv_at hl 2 rfl) ?_
  refine lv_aload_n hx hb dX6_setTest_19 rfl (lv_at hl 0 rfl) ?_
  refine gf_RX6_74 hx hb hts hown hK hP (by decide) dX6_setTest_20 ?_
  obtain ⟨X5, eX5, hk⟩ := lq_s hk
  refine pf_RX6_421 hx hb hts hown hZ hK hP hS hi2 dX6_setTest_23 (fun H locs hP hS => ?_)
  rw [← eX5] at hP
  refine lv_aload_n hx hb dX6_setTest_26 rfl (lv_at hl 0 rfl) ?_
  refine gf_RX6_19 hx hb hts hown hK hP (by decide) dX6_setTest_27 ?_
  obtain ⟨X7, v6, hf8, hk⟩ := b1_s hk
  refine wc_vV0 (rest := []) (As := []) ⟨hx, hb, hml, hown, hts⟩ (fun sz => k_X4_erase l hfl Z hZ X5 M O 40 (by decide) X7 v6 hf8 sz) (cw_RX6_134 (args := args) (s := s) hts (Nat.le_of_ble_eq_true rfl) (Nat.le_of_ble_eq_true rfl)) hE hP hK hS (rv_4 hK hP (by decide)) rfl hl.1 rfl (Nat.le_of_ble_eq_true rfl) dX6_setTest_30 ⟨Nat.le_of_ble_eq_true rfl, Nat.le_of_ble_eq_true rfl⟩ (fun H locs hP hS => ?_)
  refine lv_iconst (v := (0 : Int32)) hx hb dX6_setTest_33 (by decide) ?_
  refine lv_istore_n (lv' := [(3, .int (0 : Int32)), (0, .ref (Z.2.2 0 0)), (1, .int p0), (2, .ref (Z.2.2 4 i2))]) hx hb dX6_setTest_34 rfl hl (by decide) rfl (fun ls hl => ?_)
  refine lv_iconst (v := (0 : Int32)) hx hb dX6_setTest_35 (by decide) ?_
  refine lv_istore (lv' := [(4, .int (0 : Int32)), (3, .int (0 : Int32)), (0, .ref (Z.2.2 0 0)), (1, .int p0), (2, .ref (Z.2.2 4 i2))]) hx hb dX6_setTest_36 hl (by decide) rfl (fun ls hl => ?_)
  obtain ⟨k9, hk9, hk⟩ := gn hk
  have ex9 : ∀ (v10 : Int32) (X11 : SS) (H : Heap) (locs : List Loc) (ls : Array Slot), k9 v10 X11 = some (Xz, r) → wP Z (X11, M, O) H → va_S (wA Z s.heap.size) s.heap H locs → lv_has ls 7 [(3, .int v10)] → W p l e (headSpec ws_X6_setTest rm_X6_setTest).room s m args below meth c H locs 0 0 (vx_MQ below (cQi Z (Xz, M, O) (.inl r) s.heap.size) (cX Z (Xz, M, O) (.inl r : Int32 ⊕ String) s.heap.size) args s 0 0 (wA Z s.heap.size)) (F0 m 115 ls []) := by
    intro v10 X11 H locs ls hk hP hS hl
    subst hk9
    refine lv_iload_n hx hb dX6_setTest_115 rfl (lv_at hl 0 rfl) ?_
    cases (show some _ = some _ from hk)
    exact we_i hx hb hr hlocks hP rfl hS dX6_setTest_116 (by decide) (by decide)
  have lp9 : ∀ (n : Nat) (v12 : Int32) (v13 : Int32) (X14 : SS) (H : Heap) (locs : List Loc) (ls : Array Slot), f_X6_setTest_L38 p0 n v12 v13 X14 k9 = some (Xz, r) → wP Z (X14, M, O) H → va_S (wA Z s.heap.size) s.heap H locs → lv_has ls 7 [(4, .int v12), (3, .int v13), (0, .ref (Z.2.2 0 0)), (1, .int p0)] → W p l e (headSpec ws_X6_setTest rm_X6_setTest).room s m args below meth c H locs 0 0 (vx_MQ below (cQi Z (Xz, M, O) (.inl r) s.heap.size) (cX Z (Xz, M, O) (.inl r : Int32 ⊕ String) s.heap.size) args s 0 0 (wA Z s.heap.size)) (F0 m 38 ls []) := by
    intro n
    induction n with
    | zero =>
      intro v12 v13 X14 H locs ls hk
      rw [f_X6_setTest_L38] at hk
      exact nomatch (show none = some _ from hk)
    | succ n ih =>
      intro v12 v13 X14 H locs ls hk hP hS hl
      rw [f_X6_setTest_L38] at hk
      refine lv_iload hx hb dX6_setTest_38 (lv_at hl 0 rfl) ?_
      refine lv_aload_n hx hb dX6_setTest_40 rfl (lv_at hl 2 rfl) ?_
      refine gf_RX6_65 hx hb hts hown hK hP (by decide) dX6_setTest_41 ?_
      refine lv_icmp_ge (tgt := 115) hx hb dX6_setTest_44 (by decide) (fun cz15 => ?_) (fun cz15 => ?_)
      · have hk := it_t cz15 hk
        exact ex9 v13 X14 _ _ _ hk hP hS (lv_sub hl [1] rfl)
      · have hk := it_f cz15 hk
        refine lv_aload_n hx hb dX6_setTest_47 rfl (lv_at hl 2 rfl) ?_
        refine gf_RX6_37 hx hb hts hown hK hP (by decide) dX6_setTest_48 ?_
        refine lv_iload hx hb dX6_setTest_51 (lv_at hl 0 rfl) ?_
        obtain ⟨hg16, hk⟩ := gd_s hk
        refine wa_aaload_23 hx hb hK hP (by decide) hg16 dX6_setTest_53 ?_
        refine lv_astore (lv' := [(5, .ref (Z.2.2 12 (v12).toNatClampNeg)), (4, .int v12), (3, .int v13), (0, .ref (Z.2.2 0 0)), (1, .int p0)]) hx hb dX6_setTest_54 hl (by decide) rfl (fun ls hl => ?_)
        refine lv_aload hx hb dX6_setTest_56 (lv_at hl 0 rfl) ?_
        refine gf_RX6_252 hx hb hts hown hK hP (vp_lt hg16) dX6_setTest_58 ?_
        refine lv_if_eq (tgt := 109) hx hb dX6_setTest_61 (by decide) (fun cz17 => ?_) (fun cz17 => ?_)
        · have hk := it_t cz17 hk
          refine lv_iinc (v := (v12 + (1 : Int32))) (lv' := [(4, .int (v12 + (1 : Int32))), (5, .ref (Z.2.2 12 (v12).toNatClampNeg)), (3, .int v13), (0, .ref (Z.2.2 0 0)), (1, .int p0)]) hx hb dX6_setTest_109 hl (k := 1) rfl rfl (by decide) rfl (fun ls hl => ?_)
          refine lv_goto (tgt := 38) hx hb dX6_setTest_112 (by decide) ?_
          exact ih (v12 + (1 : Int32)) v13 X14 _ _ _ hk hP hS (lv_sub hl [0, 2, 3, 4] rfl)
        · have hk := it_f cz17 hk
          refine lv_aload hx hb dX6_setTest_64 (lv_at hl 0 rfl) ?_
          refine gf_RX6_226 hx hb hts hown hK hP (vp_lt hg16) dX6_setTest_66 ?_
          refine lv_iload_n hx hb dX6_setTest_69 rfl (lv_at hl 4 rfl) ?_
          refine lv_icmp_ne (tgt := 109) hx hb dX6_setTest_70 (by decide) (fun cz18 => ?_) (fun cz18 => ?_)
          · have hk := it_f cz18 hk
            refine lv_iinc (v := (v12 + (1 : Int32))) (lv' := [(4, .int (v12 + (1 : Int32))), (5, .ref (Z.2.2 12 (v12).toNatClampNeg)), (3, .int v13), (0, .ref (Z.2.2 0 0)), (1, .int p0)]) hx hb dX6_setTest_109 hl (k := 1) rfl rfl (by decide) rfl (fun ls hl => ?_)
            refine lv_goto (tgt := 38) hx hb dX6_setTest_112 (by decide) ?_
            exact ih (v12 + (1 : Int32)) v13 X14 _ _ _ hk hP hS (lv_sub hl [0, 2, 3, 4] rfl)
          · have hk := it_t cz18 hk
            refine lv_aload hx hb dX6_setTest_73 (lv_at hl 0 rfl) ?_
            refine gf_RX6_238 hx hb hts hown hK hP (vp_lt hg16) dX6_setTest_75 ?_
            obtain ⟨v19, ev19, hk⟩ := lq_s hk
            refine W.eq (g2 := F0 m 78 ls [.int v19]) (by rw [ev19]) ?_
            refine lv_istore (lv' := [(6, .int v19), (5, .ref (Z.2.2 12 (v12).toNatClampNeg)), (4, .int v12), (3, .int v13), (0, .ref (Z.2.2 0 0)), (1, .int p0)]) hx hb dX6_setTest_78 hl (by decide) rfl (fun ls hl => ?_)
            refine lv_aload hx hb dX6_setTest_80 (lv_at hl 1 rfl) ?_
            refine lv_aload_n hx hb dX6_setTest_82 rfl (lv_at hl 4 rfl) ?_
            refine lv_aload hx hb dX6_setTest_83 (lv_at hl 1 rfl) ?_
            obtain ⟨X21, v20, hf22, hk⟩ := b1_s hk
            refine wc_iV0 (rest := [.ref (Z.2.2 12 (v12).toNatClampNeg)]) (As := [.ref (Z.2.2 12 (v12).toNatClampNeg)]) ⟨hx, hb, hml, hown, hts⟩ (fun sz => k_X6_verdictOn l hfl Z hZ X14 M O (v12).toNatClampNeg (vp_lt hg16) X21 v20 hf22 sz) (cw_RX6_424 (args := args) (s := s) hts (Nat.le_of_ble_eq_true rfl) (Nat.le_of_ble_eq_true rfl)) hE hP hK hS (rv_0 hK hP (by decide)) rfl hl.1 rfl (Nat.le_of_ble_eq_true rfl) dX6_setTest_85 ⟨Nat.le_of_ble_eq_true rfl, Nat.le_of_ble_eq_true rfl⟩ (fun H locs hP hS => ?_)
            obtain ⟨hg23, hk⟩ := gd_s hk
            obtain ⟨X24, eX24, hk⟩ := lq_s hk
            refine pf_RX6_238 hx hb hts hown hZ hK hP hS (vp_lt hg16) hg23 dX6_setTest_88 (fun H locs hP hS => ?_)
            rw [← eX24] at hP
            refine lv_iload_n hx hb dX6_setTest_91 rfl (lv_at hl 3 rfl) ?_
            refine lv_aload hx hb dX6_setTest_92 (lv_at hl 1 rfl) ?_
            refine gf_RX6_238 hx hb hts hown hK hP (vp_lt hg16) dX6_setTest_94 ?_
            refine lv_iload hx hb dX6_setTest_97 (lv_at hl 0 rfl) ?_
            refine lv_icmp_ne (tgt := 106) hx hb dX6_setTest_99 (by decide) (fun cz25 => ?_) (fun cz25 => ?_)
            · have hk := it_f cz25 hk
              refine lv_iconst (v := (1 : Int32)) hx hb dX6_setTest_106 (by decide) ?_
              refine lv_iadd hx hb dX6_setTest_107 ?_
              obtain ⟨v26, ev26, hk⟩ := lq_s hk
              refine W.eq (g2 := F0 m 108 ls [.int v26]) (by rw [ev26]) ?_
              refine lv_istore_n (lv' := [(3, .int v26), (6, .int v19), (5, .ref (Z.2.2 12 (v12).toNatClampNeg)), (4, .int v12), (0, .ref (Z.2.2 0 0)), (1, .int p0)]) hx hb dX6_setTest_108 rfl hl (by decide) rfl (fun ls hl => ?_)
              refine lv_iinc (v := (v12 + (1 : Int32))) (lv' := [(4, .int (v12 + (1 : Int32))), (3, .int v26), (6, .int v19), (5, .ref (Z.2.2 12 (v12).toNatClampNeg)), (0, .ref (Z.2.2 0 0)), (1, .int p0)]) hx hb dX6_setTest_109 hl (k := 3) rfl rfl (by decide) rfl (fun ls hl => ?_)
              refine lv_goto (tgt := 38) hx hb dX6_setTest_112 (by decide) ?_
              exact ih (v12 + (1 : Int32)) v26 X24 _ _ _ hk hP hS (lv_sub hl [0, 1, 4, 5] rfl)
            · have hk := it_t cz25 hk
              refine lv_iconst (v := (0 : Int32)) hx hb dX6_setTest_102 (by decide) ?_
              refine lv_goto (tgt := 107) hx hb dX6_setTest_103 (by decide) ?_
              refine lv_iadd hx hb dX6_setTest_107 ?_
              obtain ⟨v27, ev27, hk⟩ := lq_s hk
              refine W.eq (g2 := F0 m 108 ls [.int v27]) (by rw [ev27]) ?_
              refine lv_istore_n (lv' := [(3, .int v27), (6, .int v19), (5, .ref (Z.2.2 12 (v12).toNatClampNeg)), (4, .int v12), (0, .ref (Z.2.2 0 0)), (1, .int p0)]) hx hb dX6_setTest_108 rfl hl (by decide) rfl (fun ls hl => ?_)
              refine lv_iinc (v := (v12 + (1 : Int32))) (lv' := [(4, .int (v12 + (1 : Int32))), (3, .int v27), (6, .int v19), (5, .ref (Z.2.2 12 (v12).toNatClampNeg)), (0, .ref (Z.2.2 0 0)), (1, .int p0)]) hx hb dX6_setTest_109 hl (k := 3) rfl rfl (by decide) rfl (fun ls hl => ?_)
              refine lv_goto (tgt := 38) hx hb dX6_setTest_112 (by decide) ?_
              exact ih (v12 + (1 : Int32)) v27 X24 _ _ _ hk hP hS (lv_sub hl [0, 1, 4, 5] rfl)
  exact lp9 1000 (0 : Int32) (0 : Int32) X7 _ _ _ hk hP hS (lv_sub hl [0, 1, 2, 3] rfl)
set_option maxHeartbeats 4000000 in
set_option maxRecDepth 100000 in
theorem k_X6_test (l : Launch) (hfl : l.stackTraces = false) (Z : ZT) (hZ : wD Z) (X M O : SS) (p0 : Int32) (Xz : SS) (o : Int32 ⊕ String) (hf : f_X6_test X p0 = some (Xz, o)) (sz : Nat) : vx_Met l yX6_test ws_X6_test rm_X6_test (va_Pc [.ref (Z.2.2 0 0), .int p0] (cP Z (X, M, O) sz)) (cQi Z (Xz, M, O) o sz) (cX Z (Xz, M, O) o sz) 2 12 (wA Z sz) := by
  refine vx_ofW (cc := cX6_test) (maxL := 4) (ret := (some .int)) (by decide) rfl ?_
  intro p e s m args below meth c s₁ B hml htab hv
  obtain ⟨hargs, hsz, hE, hP, hK⟩ := hv
  have hx := B.exec
  have hb := B.bytes
  have hr := B.returns
  have hts0 := atoms_spec (ws := ws_X6_test) B.pre
  have hts : ∀ w ∈ lw_all, w.before args s = true := fun w h => hts0 w (List.mem_cons_of_mem _ h)
  have hown : s.vm.findClass RX6 = some m.cls := findClass_of_methodNamed B.named
  have hlocks := B.notSynchronized
  have hout9 : ∀ (pc9 : Nat), ∀ x ∈ c.exceptionTable.toList, covers x pc9 = false := fun _ x hx9 => (htab x hx9).elim
  subst hsz
  have hS : va_S (wA Z s.heap.size) s.heap s.heap [] := va_S.rf
  have hl := lv_entry ([.ref (Z.2.2 0 0), .int p0]) (n := 4) (Nat.le_of_ble_eq_true rfl)
  have hen : entryFrame m args 4 = entryFrame m ([.ref (Z.2.2 0 0), .int p0] : List Value).toArray 4 := by rw [hargs]
  rw [hen, lg_entry_eq]
  generalize (lg_sl ([.ref (Z.2.2 0 0), .int p0]) ++ List.replicate (4 - (lg_sl ([.ref (Z.2.2 0 0), .int p0])).length) Slot.unset).toArray = ls at hl ⊢
  have hl : lv_has ls 4 [(0, .ref (Z.2.2 0 0)), (1, .int p0)] := hl
  have hk := hf
  unfold f_X6_test at hk
  refine lv_aload_n hx hb dX6_test_0 rfl (lv_at hl 0 rfl) ?_
  refine lv_iload_n hx hb dX6_test_1 rfl (lv_at hl 1 rfl) ?_
  obtain ⟨o3, hf2, hn5, he6⟩ := e0_s hk
  refine wc_qV (kd := 7) (rest := []) (As := [.int p0]) ⟨hx, hb, hml, hown, hts⟩ (fun sz => k_X6_kataAt l hfl Z hZ X M O p0 o3 hf2 sz) (cw_RX6_142 (args := args) (s := s) hts (Nat.le_of_ble_eq_true rfl) (Nat.le_of_ble_eq_true rfl)) hE hP hK hS (rv_0 hK hP (by decide)) rfl hl.1 rfl (Nat.le_of_ble_eq_true rfl) dX6_test_2 ⟨Nat.le_of_ble_eq_true rfl, Nat.le_of_ble_eq_true rfl⟩ (fun E4 ce9 q9 H locs hoE hP hS hc9 hv9 hcl9 => ?_) (fun i1 hi1 H locs ho hP hS => ?_)
  · have hk := he6 _ hoE
    cases (show some _ = some _ from hk)
    exact vx_out (hout9 _) hlocks hc9 hv9 hcl9 (fun t8 ht8 hA8 => ⟨(), trivial, ⟨rfl, wP_eq ht8 hP⟩, hS.F ht8⟩) hS.2.2 (by decide) (by decide)
  have hk := hn5 _ ho
  refine lv_astore_n (lv' := [(2, .ref (Z.2.2 7 i1)), (0, .ref (Z.2.2 0 0)), (1, .int p0)]) hx hb dX6_test_5 rfl hl (by decide) rfl (fun ls hl => ?_)
  refine lv_aload_n hx hb dX6_test_6 rfl (lv_at hl 0 rfl) ?_
  refine gf_RX6_146 hx hb hts hown hK hP hi1 dX6_test_7 ?_
  refine lv_iconst (v := (5 : Int32)) hx hb dX6_test_10 (by decide) ?_
  refine lv_icmp_lt (tgt := 24) hx hb dX6_test_11 (by decide) (fun cz7 => ?_) (fun cz7 => ?_)
  · have hk := it_t cz7 hk
    refine lv_aload_n hx hb dX6_test_24 rfl (lv_at hl 0 rfl) ?_
    refine gf_RX6_146 hx hb hts hown hK hP hi1 dX6_test_25 ?_
    obtain ⟨v8, ev8, hk⟩ := lq_s hk
    refine W.eq (g2 := F0 m 28 ls [.int v8]) (by rw [ev8]) ?_
    refine lv_istore_n (lv' := [(3, .int v8), (2, .ref (Z.2.2 7 i1)), (0, .ref (Z.2.2 0 0)), (1, .int p0)]) hx hb dX6_test_28 rfl hl (by decide) rfl (fun ls hl => ?_)
    refine lv_aload_n hx hb dX6_test_29 rfl (lv_at hl 1 rfl) ?_
    refine lv_dup hx hb dX6_test_30 rfl ?_
    refine gf_RX6_146 hx hb hts hown hK hP hi1 dX6_test_31 ?_
    refine lv_iconst (v := (1 : Int32)) hx hb dX6_test_34 (by decide) ?_
    refine lv_iadd hx hb dX6_test_35 ?_
    obtain ⟨X9, eX9, hk⟩ := lq_s hk
    refine pf_RX6_146 hx hb hts hown hZ hK hP hS hi1 dX6_test_36 (fun H locs hP hS => ?_)
    rw [← eX9] at hP
    refine lv_aload_n hx hb dX6_test_39 rfl (lv_at hl 2 rfl) ?_
    refine lv_iload_n hx hb dX6_test_40 rfl (lv_at hl 3 rfl) ?_
    refine lv_aload_n hx hb dX6_test_41 rfl (lv_at hl 1 rfl) ?_
    refine gf_RX6_151 hx hb hts hown hK hP hi1 dX6_test_42 ?_
    refine lv_iload_n hx hb dX6_test_45 rfl (lv_at hl 0 rfl) ?_
    obtain ⟨hg10, hk⟩ := gd_s hk
    refine wa_aaload_8 hx hb hK hP hi1 hg10 dX6_test_46 ?_
    obtain ⟨X12, v11, hf13, hk⟩ := b1_s hk
    refine wc_iV0 (rest := []) (As := [.int p0, .ref (Z.2.2 4 (5 * i1 + (v8).toNatClampNeg))]) ⟨hx, hb, hml, hown, hts⟩ (fun sz => k_X6_setTest l hfl Z hZ X9 M O p0 (5 * i1 + (v8).toNatClampNeg) (lt_T hi1 (vp_lt hg10)) X12 v11 hf13 sz) (cw_RX6_155 (args := args) (s := s) hts (Nat.le_of_ble_eq_true rfl) (Nat.le_of_ble_eq_true rfl)) hE hP hK hS (rv_0 hK hP (by decide)) rfl hl.1 rfl (Nat.le_of_ble_eq_true rfl) dX6_test_47 ⟨Nat.le_of_ble_eq_true rfl, Nat.le_of_ble_eq_true rfl⟩ (fun H locs hP hS => ?_)
    cases (show some _ = some _ from hk)
    exact we_i hx hb hr hlocks hP rfl hS dX6_test_50 (by decide) (by decide)
  · have hk := it_f cz7 hk
    cases (show some _ = some _ from hk)
    obtain ⟨sa, hstr⟩ := EV.str hE (own := RX6) (k := 149) (tx := "there are 5 tests") (by decide +kernel)
    exact vx_throwS (mc := 2) (ms := 12) (names := ["java/lang/RuntimeException", "java/lang/Exception"]) hx hb hfl hown (by decide +kernel) (by decide +kernel) (hts _ q705) (hts _ q95) hstr (th_112 hE hts) (by decide +kernel) (EV.zu hE) (EV.zn hE) hS (hl.1.trans hml.symm) dX6_test_14 dX6_test_17 dX6_test_18 dX6_test_20 dX6_test_23 (hout9 _) (Nat.le_of_ble_eq_true rfl) (Nat.le_of_ble_eq_true rfl) (Nat.le_of_ble_eq_true rfl) (Nat.le_of_ble_eq_true rfl) hlocks (fun t9 _ h8 h9 => ⟨(), trivial, ⟨rfl, wP_kept hP h9⟩, fF hS h8 h9⟩) hS.2.2 (by decide) (by decide)
set_option maxHeartbeats 4000000 in
set_option maxRecDepth 100000 in
theorem k_X6_testAt (l : Launch) (hfl : l.stackTraces = false) (Z : ZT) (hZ : wD Z) (X M O : SS) (i1 : Nat) (p1 : Int32) (hi1 : i1 < 8) (o : Nat ⊕ String) (hf : f_X6_testAt X i1 p1 = some (o)) (sz : Nat) : vx_Met l yX6_testAt ws_X6_testAt rm_X6_testAt (va_Pc [.ref (Z.2.2 0 0), .ref (Z.2.2 7 i1), .int p1] (cP Z (X, M, O) sz)) (cQq Z 4 (X, M, O) o sz) (cX Z (X, M, O) o sz) 1 6 (wA Z sz) := by
  refine vx_ofW (cc := cX6_testAt) (maxL := 3) (ret := (some (.object "Katacode$Test"))) (by decide) rfl ?_
  intro p e s m args below meth c s₁ B hml htab hv
  obtain ⟨hargs, hsz, hE, hP, hK⟩ := hv
  have hx := B.exec
  have hb := B.bytes
  have hr := B.returns
  have hts0 := atoms_spec (ws := ws_X6_testAt) B.pre
  have hts : ∀ w ∈ lw_all, w.before args s = true := fun w h => hts0 w (List.mem_cons_of_mem _ h)
  have hown : s.vm.findClass RX6 = some m.cls := findClass_of_methodNamed B.named
  have hlocks := B.notSynchronized
  have hout9 : ∀ (pc9 : Nat), ∀ x ∈ c.exceptionTable.toList, covers x pc9 = false := fun _ x hx9 => (htab x hx9).elim
  subst hsz
  have hS : va_S (wA Z s.heap.size) s.heap s.heap [] := va_S.rf
  have hl := lv_entry ([.ref (Z.2.2 0 0), .ref (Z.2.2 7 i1), .int p1]) (n := 3) (Nat.le_of_ble_eq_true rfl)
  have hen : entryFrame m args 3 = entryFrame m ([.ref (Z.2.2 0 0), .ref (Z.2.2 7 i1), .int p1] : List Value).toArray 3 := by rw [hargs]
  rw [hen, lg_entry_eq]
  generalize (lg_sl ([.ref (Z.2.2 0 0), .ref (Z.2.2 7 i1), .int p1]) ++ List.replicate (3 - (lg_sl ([.ref (Z.2.2 0 0), .ref (Z.2.2 7 i1), .int p1])).length) Slot.unset).toArray = ls at hl ⊢
  have hl : lv_has ls 3 [(0, .ref (Z.2.2 0 0)), (1, .ref (Z.2.2 7 i1)), (2, .int p1)] := hl
  have hk := hf
  unfold f_X6_testAt at hk
  refine lv_iload_n hx hb dX6_testAt_0 rfl (lv_at hl 2 rfl) ?_
  refine lv_if_lt (tgt := 12) hx hb dX6_testAt_1 (by decide) (fun cz1 => ?_) (fun cz1 => ?_)
  · have hk := it_t cz1 hk
    cases (show some _ = some _ from hk)
    obtain ⟨sa, hstr⟩ := EV.str hE (own := RX6) (k := 409) (tx := "no such test") (by decide +kernel)
    exact vx_throwSW (mc := 1) (ms := 6) (names := ["java/lang/RuntimeException", "java/lang/Exception"]) hx hb hfl hown (by decide +kernel) (by decide +kernel) (hts _ q785) (hts _ q96) hstr (th_408 hE hts) (by decide +kernel) (EV.zu hE) (EV.zn hE) hS (hl.1.trans hml.symm) dX6_testAt_12 dX6_testAt_15 dX6_testAt_16 dX6_testAt_19 dX6_testAt_22 (hout9 _) (Nat.le_of_ble_eq_true rfl) (Nat.le_of_ble_eq_true rfl) (Nat.le_of_ble_eq_true rfl) (Nat.le_of_ble_eq_true rfl) hlocks (fun t9 _ h8 h9 => ⟨(), trivial, ⟨rfl, wP_kept hP h9⟩, fF hS h8 h9⟩) hS.2.2 (by decide) (by decide)
  · have hk := it_f cz1 hk
    refine lv_iload_n hx hb dX6_testAt_4 rfl (lv_at hl 2 rfl) ?_
    refine lv_aload_n hx hb dX6_testAt_5 rfl (lv_at hl 1 rfl) ?_
    refine gf_RX6_146 hx hb hts hown hK hP hi1 dX6_testAt_6 ?_
    refine lv_icmp_lt (tgt := 23) hx hb dX6_testAt_9 (by decide) (fun cz2 => ?_) (fun cz2 => ?_)
    · have hk := it_t cz2 hk
      refine lv_aload_n hx hb dX6_testAt_23 rfl (lv_at hl 1 rfl) ?_
      refine gf_RX6_151 hx hb hts hown hK hP hi1 dX6_testAt_24 ?_
      refine lv_iload_n hx hb dX6_testAt_27 rfl (lv_at hl 2 rfl) ?_
      obtain ⟨hg3, hk⟩ := gd_s hk
      refine wa_aaload_8 hx hb hK hP hi1 hg3 dX6_testAt_28 ?_
      cases (show some _ = some _ from hk)
      exact we_q (kd := 4) (i := (5 * i1 + (p1).toNatClampNeg)) hx hb hr hlocks (Or.inl ⟨_, rfl⟩) hP (lt_T hi1 (vp_lt hg3)) rfl hS dX6_testAt_29 (by decide) (by decide)
    · have hk := it_f cz2 hk
      cases (show some _ = some _ from hk)
      obtain ⟨sa, hstr⟩ := EV.str hE (own := RX6) (k := 409) (tx := "no such test") (by decide +kernel)
      exact vx_throwSW (mc := 1) (ms := 6) (names := ["java/lang/RuntimeException", "java/lang/Exception"]) hx hb hfl hown (by decide +kernel) (by decide +kernel) (hts _ q785) (hts _ q96) hstr (th_408 hE hts) (by decide +kernel) (EV.zu hE) (EV.zn hE) hS (hl.1.trans hml.symm) dX6_testAt_12 dX6_testAt_15 dX6_testAt_16 dX6_testAt_19 dX6_testAt_22 (hout9 _) (Nat.le_of_ble_eq_true rfl) (Nat.le_of_ble_eq_true rfl) (Nat.le_of_ble_eq_true rfl) (Nat.le_of_ble_eq_true rfl) hlocks (fun t9 _ h8 h9 => ⟨(), trivial, ⟨rfl, wP_kept hP h9⟩, fF hS h8 h9⟩) hS.2.2 (by decide) (by decide)
set_option maxHeartbeats 4000000 in
set_option maxRecDepth 100000 in
theorem k_X6_fix (l : Launch) (hfl : l.stackTraces = false) (Z : ZT) (hZ : wD Z) (X M O : SS) (p0 : Int32) (p1 : Int32) (Xz : SS) (o : Int32 ⊕ String) (hf : f_X6_fix X p0 p1 = some (Xz, o)) (sz : Nat) : vx_Met l yX6_fix ws_X6_fix rm_X6_fix (va_Pc [.ref (Z.2.2 0 0), .int p0, .int p1] (cP Z (X, M, O) sz)) (cQi Z (Xz, M, O) o sz) (cX Z (Xz, M, O) o sz) 2 12 (wA Z sz) := by
  refine vx_ofW (cc := cX6_fix) (maxL := 3) (ret := (some .int)) (by decide) rfl ?_
  intro p e s m args below meth c s₁ B hml htab hv
  obtain ⟨hargs, hsz, hE, hP, hK⟩ := hv
  have hx := B.exec
  have hb := B.bytes
  have hr := B.returns
  have hts0 := atoms_spec (ws := ws_X6_fix) B.pre
  have hts : ∀ w ∈ lw_all, w.before args s = true := fun w h => hts0 w (List.mem_cons_of_mem _ h)
  have hown : s.vm.findClass RX6 = some m.cls := findClass_of_methodNamed B.named
  have hlocks := B.notSynchronized
  have hout9 : ∀ (pc9 : Nat), ∀ x ∈ c.exceptionTable.toList, covers x pc9 = false := fun _ x hx9 => (htab x hx9).elim
  subst hsz
  have hS : va_S (wA Z s.heap.size) s.heap s.heap [] := va_S.rf
  have hl := lv_entry ([.ref (Z.2.2 0 0), .int p0, .int p1]) (n := 3) (Nat.le_of_ble_eq_true rfl)
  have hen : entryFrame m args 3 = entryFrame m ([.ref (Z.2.2 0 0), .int p0, .int p1] : List Value).toArray 3 := by rw [hargs]
  rw [hen, lg_entry_eq]
  generalize (lg_sl ([.ref (Z.2.2 0 0), .int p0, .int p1]) ++ List.replicate (3 - (lg_sl ([.ref (Z.2.2 0 0), .int p0, .int p1])).length) Slot.unset).toArray = ls at hl ⊢
  have hl : lv_has ls 3 [(0, .ref (Z.2.2 0 0)), (1, .int p0), (2, .int p1)] := hl
  have hk := hf
  unfold f_X6_fix at hk
  refine lv_aload_n hx hb dX6_fix_0 rfl (lv_at hl 0 rfl) ?_
  refine lv_iload_n hx hb dX6_fix_1 rfl (lv_at hl 1 rfl) ?_
  refine lv_aload_n hx hb dX6_fix_2 rfl (lv_at hl 0 rfl) ?_
  refine lv_aload_n hx hb dX6_fix_3 rfl (lv_at hl 0 rfl) ?_
  refine lv_iload_n hx hb dX6_fix_4 rfl (lv_at hl 1 rfl) ?_
  obtain ⟨o3, hf2, hn5, he6⟩ := e0_s hk
  refine wc_qV (kd := 7) (rest := [.ref (Z.2.2 0 0), .int p0, .ref (Z.2.2 0 0)]) (As := [.int p0]) ⟨hx, hb, hml, hown, hts⟩ (fun sz => k_X6_kataAt l hfl Z hZ X M O p0 o3 hf2 sz) (cw_RX6_142 (args := args) (s := s) hts (Nat.le_of_ble_eq_true rfl) (Nat.le_of_ble_eq_true rfl)) hE hP hK hS (rv_0 hK hP (by decide)) rfl hl.1 rfl (Nat.le_of_ble_eq_true rfl) dX6_fix_5 ⟨Nat.le_of_ble_eq_true rfl, Nat.le_of_ble_eq_true rfl⟩ (fun E4 ce9 q9 H locs hoE hP hS hc9 hv9 hcl9 => ?_) (fun i1 hi1 H locs ho hP hS => ?_)
  · have hk := he6 _ hoE
    cases (show some _ = some _ from hk)
    exact vx_out (hout9 _) hlocks hc9 hv9 hcl9 (fun t8 ht8 hA8 => ⟨(), trivial, ⟨rfl, wP_eq ht8 hP⟩, hS.F ht8⟩) hS.2.2 (by decide) (by decide)
  have hk := hn5 _ ho
  refine lv_iload_n hx hb dX6_fix_8 rfl (lv_at hl 2 rfl) ?_
  obtain ⟨o9, hf8, hn11, he12⟩ := e0_s hk
  refine wc_qV (kd := 4) (rest := [.int p0, .ref (Z.2.2 0 0)]) (As := [.ref (Z.2.2 7 i1), .int p1]) ⟨hx, hb, hml, hown, hts⟩ (fun sz => k_X6_testAt l hfl Z hZ X M O i1 p1 hi1 o9 hf8 sz) (cw_RX6_159 (args := args) (s := s) hts (Nat.le_of_ble_eq_true rfl) (Nat.le_of_ble_eq_true rfl)) hE hP hK hS (rv_0 hK hP (by decide)) rfl hl.1 rfl (Nat.le_of_ble_eq_true rfl) dX6_fix_9 ⟨Nat.le_of_ble_eq_true rfl, Nat.le_of_ble_eq_true rfl⟩ (fun E10 ce9 q9 H locs hoE hP hS hc9 hv9 hcl9 => ?_) (fun i7 hi7 H locs ho hP hS => ?_)
  · have hk := he12 _ hoE
    cases (show some _ = some _ from hk)
    exact vx_out (hout9 _) hlocks hc9 hv9 hcl9 (fun t8 ht8 hA8 => ⟨(), trivial, ⟨rfl, wP_eq ht8 hP⟩, hS.F ht8⟩) hS.2.2 (by decide) (by decide)
  have hk := hn11 _ ho
  obtain ⟨X14, v13, hf15, hk⟩ := b1_s hk
  refine wc_iV0 (rest := []) (As := [.int p0, .ref (Z.2.2 4 i7)]) ⟨hx, hb, hml, hown, hts⟩ (fun sz => k_X6_setTest l hfl Z hZ X M O p0 i7 hi7 X14 v13 hf15 sz) (cw_RX6_155 (args := args) (s := s) hts (Nat.le_of_ble_eq_true rfl) (Nat.le_of_ble_eq_true rfl)) hE hP hK hS (rv_0 hK hP (by decide)) rfl hl.1 rfl (Nat.le_of_ble_eq_true rfl) dX6_fix_12 ⟨Nat.le_of_ble_eq_true rfl, Nat.le_of_ble_eq_true rfl⟩ (fun H locs hP hS => ?_)
  cases (show some _ = some _ from hk)
  exact we_i hx hb hr hlocks hP rfl hS dX6_fix_15 (by decide) (by decide)
set_option maxHeartbeats 4000000 in
set_option maxRecDepth 100000 in
theorem k_X6_tests (l : Launch) (hfl : l.stackTraces = false) (Z : ZT) (hZ : wD Z) (X M O : SS) (p0 : Int32) (o : Int32 ⊕ String) (hf : f_X6_tests X p0 = some (o)) (sz : Nat) : vx_Met l yX6_tests ws_X6_tests rm_X6_tests (va_Pc [.ref (Z.2.2 0 0), .int p0] (cP Z (X, M, O) sz)) (cQi Z (X, M, O) o sz) (cX Z (X, M, O) o sz) 1 6 (wA Z sz) := by
  refine vx_ofW (cc := cX6_tests) (maxL := 2) (ret := (some .int)) (by decide) rfl ?_
  intro p e s m args below meth c s₁ B hml htab hv
  obtain ⟨hargs, hsz, hE, hP, hK⟩ := hv
  have hx := B.exec
  have hb := B.bytes
  have hr := B.returns
  have hts0 := atoms_spec (ws := ws_X6_tests) B.pre
  have hts : ∀ w ∈ lw_all, w.before args s = true := fun w h => hts0 w (List.mem_cons_of_mem _ h)
  have hown : s.vm.findClass RX6 = some m.cls := findClass_of_methodNamed B.named
  have hlocks := B.notSynchronized
  have hout9 : ∀ (pc9 : Nat), ∀ x ∈ c.exceptionTable.toList, covers x pc9 = false := fun _ x hx9 => (htab x hx9).elim
  subst hsz
  have hS : va_S (wA Z s.heap.size) s.heap s.heap [] := va_S.rf
  have hl := lv_entry ([.ref (Z.2.2 0 0), .int p0]) (n := 2) (Nat.le_of_ble_eq_true rfl)
  have hen : entryFrame m args 2 = entryFrame m ([.ref (Z.2.2 0 0), .int p0] : List Value).toArray 2 := by rw [hargs]
  rw [hen, lg_entry_eq]
  generalize (lg_sl ([.ref (Z.2.2 0 0), .int p0]) ++ List.replicate (2 - (lg_sl ([.ref (Z.2.2 0 0), .int p0])).length) Slot.unset).toArray = ls at hl ⊢
  have hl : lv_has ls 2 [(0, .ref (Z.2.2 0 0)), (1, .int p0)] := hl
  have hk := hf
  unfold f_X6_tests at hk
  refine lv_aload_n hx hb dX6_tests_0 rfl (lv_at hl 0 rfl) ?_
  refine lv_iload_n hx hb dX6_tests_1 rfl (lv_at hl 1 rfl) ?_
  obtain ⟨o3, hf2, hn5, he6⟩ := e0_s hk
  refine wc_qV (kd := 7) (rest := []) (As := [.int p0]) ⟨hx, hb, hml, hown, hts⟩ (fun sz => k_X6_kataAt l hfl Z hZ X M O p0 o3 hf2 sz) (cw_RX6_142 (args := args) (s := s) hts (Nat.le_of_ble_eq_true rfl) (Nat.le_of_ble_eq_true rfl)) hE hP hK hS (rv_0 hK hP (by decide)) rfl hl.1 rfl (Nat.le_of_ble_eq_true rfl) dX6_tests_2 ⟨Nat.le_of_ble_eq_true rfl, Nat.le_of_ble_eq_true rfl⟩ (fun E4 ce9 q9 H locs hoE hP hS hc9 hv9 hcl9 => ?_) (fun i1 hi1 H locs ho hP hS => ?_)
  · have hk := he6 _ hoE
    cases (show some _ = some _ from hk)
    exact vx_out (hout9 _) hlocks hc9 hv9 hcl9 (fun t8 ht8 hA8 => ⟨(), trivial, ⟨rfl, wP_eq ht8 hP⟩, hS.F ht8⟩) hS.2.2 (by decide) (by decide)
  have hk := hn5 _ ho
  refine gf_RX6_146 hx hb hts hown hK hP hi1 dX6_tests_5 ?_
  cases (show some _ = some _ from hk)
  exact we_i hx hb hr hlocks hP rfl hS dX6_tests_8 (by decide) (by decide)
set_option maxHeartbeats 4000000 in
set_option maxRecDepth 100000 in
theorem k_X6_run (l : Launch) (hfl : l.stackTraces = false) (Z : ZT) (hZ : wD Z) (X M O : SS) (p0 : Int32) (p1 : Int32) (Xz : SS) (o : Int32 ⊕ String) (hf : f_X6_run X p0 p1 = some (Xz, o)) (sz : Nat) : vx_Met l yX6_run ws_X6_run rm_X6_run (va_Pc [.ref (Z.2.2 0 0), .int p0, .int p1] (cP Z (X, M, O) sz)) (cQi Z (Xz, M, O) o sz) (cX Z (Xz, M, O) o sz) 3 18 (wA Z sz) := by
  refine vx_ofW (cc := cX6_run) (maxL := 4) (ret := (some .char)) (by decide) rfl ?_
  intro p e s m args below meth c s₁ B hml htab hv
  obtain ⟨hargs, hsz, hE, hP, hK⟩ := hv
  have hx := B.exec
  have hb := B.bytes
  have hr := B.returns
  have hts0 := atoms_spec (ws := ws_X6_run) B.pre
  have hts : ∀ w ∈ lw_all, w.before args s = true := fun w h => hts0 w (List.mem_cons_of_mem _ h)
  have hown : s.vm.findClass RX6 = some m.cls := findClass_of_methodNamed B.named
  have hlocks := B.notSynchronized
  have hout9 : ∀ (pc9 : Nat), ∀ x ∈ c.exceptionTable.toList, covers x pc9 = false := fun _ x hx9 => (htab x hx9).elim
  subst hsz
  have hS : va_S (wA Z s.heap.size) s.heap s.heap [] := va_S.rf
  have hl := lv_entry ([.ref (Z.2.2 0 0), .int p0, .int p1]) (n := 4) (Nat.le_of_ble_eq_true rfl)
  have hen : entryFrame m args 4 = entryFrame m ([.ref (Z.2.2 0 0), .int p0, .int p1] : List Value).toArray 4 := by rw [hargs]
  rw [hen, lg_entry_eq]
  generalize (lg_sl ([.ref (Z.2.2 0 0), .int p0, .int p1]) ++ List.replicate (4 - (lg_sl ([.ref (Z.2.2 0 0), .int p0, .int p1])).length) Slot.unset).toArray = ls at hl ⊢
  have hl : lv_has ls 4 [(0, .ref (Z.2.2 0 0)), (1, .int p0), (2, .int p1)] := hl
  have hk := hf
  unfold f_X6_run at hk
  refine lv_aload_n hx hb dX6_run_0 rfl (lv_at hl 0 rfl) ?_
  refine lv_aload_n hx hb dX6_run_1 rfl (lv_at hl 0 rfl) ?_
  refine lv_iload_n hx hb dX6_run_2 rfl (lv_at hl 1 rfl) ?_
  obtain ⟨o3, hf2, hn5, he6⟩ := e0_s hk
  refine wc_qV (kd := 7) (rest := [.ref (Z.2.2 0 0)]) (As := [.int p0]) ⟨hx, hb, hml, hown, hts⟩ (fun sz => k_X6_kataAt l hfl Z hZ X M O p0 o3 hf2 sz) (cw_RX6_142 (args := args) (s := s) hts (Nat.le_of_ble_eq_true rfl) (Nat.le_of_ble_eq_true rfl)) hE hP hK hS (rv_0 hK hP (by decide)) rfl hl.1 rfl (Nat.le_of_ble_eq_true rfl) dX6_run_3 ⟨Nat.le_of_ble_eq_true rfl, Nat.le_of_ble_eq_true rfl⟩ (fun E4 ce9 q9 H locs hoE hP hS hc9 hv9 hcl9 => ?_) (fun i1 hi1 H locs ho hP hS => ?_)
  · have hk := he6 _ hoE
    cases (show some _ = some _ from hk)
    exact vx_out (hout9 _) hlocks hc9 hv9 hcl9 (fun t8 ht8 hA8 => ⟨(), trivial, ⟨rfl, wP_eq ht8 hP⟩, hS.F ht8⟩) hS.2.2 (by decide) (by decide)
  have hk := hn5 _ ho
  refine lv_iload_n hx hb dX6_run_6 rfl (lv_at hl 2 rfl) ?_
  obtain ⟨o9, hf8, hn11, he12⟩ := e0_s hk
  refine wc_qV (kd := 4) (rest := []) (As := [.ref (Z.2.2 7 i1), .int p1]) ⟨hx, hb, hml, hown, hts⟩ (fun sz => k_X6_testAt l hfl Z hZ X M O i1 p1 hi1 o9 hf8 sz) (cw_RX6_159 (args := args) (s := s) hts (Nat.le_of_ble_eq_true rfl) (Nat.le_of_ble_eq_true rfl)) hE hP hK hS (rv_0 hK hP (by decide)) rfl hl.1 rfl (Nat.le_of_ble_eq_true rfl) dX6_run_7 ⟨Nat.le_of_ble_eq_true rfl, Nat.le_of_ble_eq_true rfl⟩ (fun E10 ce9 q9 H locs hoE hP hS hc9 hv9 hcl9 => ?_) (fun i7 hi7 H locs ho hP hS => ?_)
  · have hk := he12 _ hoE
    cases (show some _ = some _ from hk)
    exact vx_out (hout9 _) hlocks hc9 hv9 hcl9 (fun t8 ht8 hA8 => ⟨(), trivial, ⟨rfl, wP_eq ht8 hP⟩, hS.F ht8⟩) hS.2.2 (by decide) (by decide)
  have hk := hn11 _ ho
  refine lv_astore_n (lv' := [(3, .ref (Z.2.2 4 i7)), (0, .ref (Z.2.2 0 0)), (1, .int p0), (2, .int p1)]) hx hb dX6_run_10 rfl hl (by decide) rfl (fun ls hl => ?_)
  refine lv_aload_n hx hb dX6_run_11 rfl (lv_at hl 1 rfl) ?_
  refine gf_RX6_10 hx hb hts hown hK hP (by decide) dX6_run_12 ?_
  obtain ⟨v13, hf14, hk⟩ := b0_s hk
  refine wc_iV0 (rest := []) (As := []) ⟨hx, hb, hml, hown, hts⟩ (fun sz => k_X3_isWhole l hfl Z hZ X M O 0 (by decide) v13 hf14 sz) (cw_RX6_163 (args := args) (s := s) hts (Nat.le_of_ble_eq_true rfl) (Nat.le_of_ble_eq_true rfl)) hE hP hK hS (rv_1 hK hP (by decide)) rfl hl.1 rfl (Nat.le_of_ble_eq_true rfl) dX6_run_15 ⟨Nat.le_of_ble_eq_true rfl, Nat.le_of_ble_eq_true rfl⟩ (fun H locs hP hS => ?_)
  refine lv_if_ne (tgt := 31) hx hb dX6_run_18 (by decide) (fun cz15 => ?_) (fun cz15 => ?_)
  · have hk := it_f cz15 hk
    refine lv_aload_n hx hb dX6_run_31 rfl (lv_at hl 1 rfl) ?_
    refine lv_iconst (v := (1 : Int32)) hx hb dX6_run_32 (by decide) ?_
    obtain ⟨X16, eX16, hk⟩ := lq_s hk
    refine pf_RX6_77 hx hb hts hown hZ hK hP hS (by decide) (by unfold okz; decide) dX6_run_33 (fun H locs hP hS => ?_)
    rw [← eX16] at hP
    refine lv_aload_n hx hb dX6_run_36 rfl (lv_at hl 1 rfl) ?_
    refine gf_RX6_51 hx hb hts hown hK hP (by decide) dX6_run_37 ?_
    refine lv_aload_n hx hb dX6_run_40 rfl (lv_at hl 1 rfl) ?_
    refine gf_RX6_10 hx hb hts hown hK hP (by decide) dX6_run_41 ?_
    refine lv_aload_n hx hb dX6_run_44 rfl (lv_at hl 0 rfl) ?_
    obtain ⟨X18, v17, hf19, hk⟩ := b1_s hk
    refine wc_iV0 (rest := []) (As := [.ref (Z.2.2 1 0), .ref (Z.2.2 4 i7)]) ⟨hx, hb, hml, hown, hts⟩ (fun sz => k_X1_execute l hfl Z hZ X16 M O 0 0 i7 (by decide) (by decide) hi7 X18 v17 hf19 sz) (cw_RX6_172 (args := args) (s := s) hts (Nat.le_of_ble_eq_true rfl) (Nat.le_of_ble_eq_true rfl)) hE hP hK hS (rv_16 hK hP (by decide)) rfl hl.1 rfl (Nat.le_of_ble_eq_true rfl) dX6_run_45 ⟨Nat.le_of_ble_eq_true rfl, Nat.le_of_ble_eq_true rfl⟩ (fun H locs hP hS => ?_)
    obtain ⟨hg20, hk⟩ := gd_s hk
    cases (show some _ = some _ from hk)
    exact we_z hx hb hr hlocks hg20.1 hP rfl hS dX6_run_48 (by decide) (by decide)
  · have hk := it_t cz15 hk
    cases (show some _ = some _ from hk)
    obtain ⟨sa, hstr⟩ := EV.str hE (own := RX6) (k := 169) (tx := "what is typed is not whole") (by decide +kernel)
    exact vx_throwS (mc := 3) (ms := 18) (names := ["java/lang/RuntimeException", "java/lang/Exception"]) hx hb hfl hown (by decide +kernel) (by decide +kernel) (hts _ q838) (hts _ q98) hstr (th_171 hE hts) (by decide +kernel) (EV.zu hE) (EV.zn hE) hS (hl.1.trans hml.symm) dX6_run_21 dX6_run_24 dX6_run_25 dX6_run_27 dX6_run_30 (hout9 _) (Nat.le_of_ble_eq_true rfl) (Nat.le_of_ble_eq_true rfl) (Nat.le_of_ble_eq_true rfl) (Nat.le_of_ble_eq_true rfl) hlocks (fun t9 _ h8 h9 => ⟨(), trivial, ⟨rfl, wP_kept hP h9⟩, fF hS h8 h9⟩) hS.2.2 (by decide) (by decide)
set_option maxHeartbeats 4000000 in
set_option maxRecDepth 100000 in
theorem k_X6_lastRun (l : Launch) (hfl : l.stackTraces = false) (Z : ZT) (hZ : wD Z) (X M O : SS) (o : Nat ⊕ String) (hf : f_X6_lastRun X = some (o)) (sz : Nat) : vx_Met l yX6_lastRun ws_X6_lastRun rm_X6_lastRun (va_Pc [.ref (Z.2.2 0 0)] (cP Z (X, M, O) sz)) (cQq Z 16 (X, M, O) o sz) (cX Z (X, M, O) o sz) 1 6 (wA Z sz) := by
  refine vx_ofW (cc := cX6_lastRun) (maxL := 1) (ret := (some (.object "Katacode$Machine"))) (by decide) rfl ?_
  intro p e s m args below meth c s₁ B hml htab hv
  obtain ⟨hargs, hsz, hE, hP, hK⟩ := hv
  have hx := B.exec
  have hb := B.bytes
  have hr := B.returns
  have hts0 := atoms_spec (ws := ws_X6_lastRun) B.pre
  have hts : ∀ w ∈ lw_all, w.before args s = true := fun w h => hts0 w (List.mem_cons_of_mem _ h)
  have hown : s.vm.findClass RX6 = some m.cls := findClass_of_methodNamed B.named
  have hlocks := B.notSynchronized
  have hout9 : ∀ (pc9 : Nat), ∀ x ∈ c.exceptionTable.toList, covers x pc9 = false := fun _ x hx9 => (htab x hx9).elim
  subst hsz
  have hS : va_S (wA Z s.heap.size) s.heap s.heap [] := va_S.rf
  have hl := lv_entry ([.ref (Z.2.2 0 0)]) (n := 1) (Nat.le_of_ble_eq_true rfl)
  have hen : entryFrame m args 1 = entryFrame m ([.ref (Z.2.2 0 0)] : List Value).toArray 1 := by rw [hargs]
  rw [hen, lg_entry_eq]
  generalize (lg_sl ([.ref (Z.2.2 0 0)]) ++ List.replicate (1 - (lg_sl ([.ref (Z.2.2 0 0)])).length) Slot.unset).toArray = ls at hl ⊢
  have hl : lv_has ls 1 [(0, .ref (Z.2.2 0 0))] := hl
  have hk := hf
  unfold f_X6_lastRun at hk
  refine lv_aload_n hx hb dX6_lastRun_0 rfl (lv_at hl 0 rfl) ?_
  refine gf_RX6_77 hx hb hts hown hK hP (by decide) dX6_lastRun_1 ?_
  refine lv_if_ne (tgt := 18) hx hb dX6_lastRun_4 (by decide) (fun cz1 => ?_) (fun cz1 => ?_)
  · have hk := it_f cz1 hk
    refine lv_aload_n hx hb dX6_lastRun_18 rfl (lv_at hl 0 rfl) ?_
    refine gf_RX6_51 hx hb hts hown hK hP (by decide) dX6_lastRun_19 ?_
    cases (show some _ = some _ from hk)
    exact we_q (kd := 16) (i := 0) hx hb hr hlocks (Or.inl ⟨_, rfl⟩) hP (by decide) rfl hS dX6_lastRun_22 (by decide) (by decide)
  · have hk := it_t cz1 hk
    cases (show some _ = some _ from hk)
    obtain ⟨sa, hstr⟩ := EV.str hE (own := RX6) (k := 415) (tx := "there was no run") (by decide +kernel)
    exact ng_throwSW (mc := 1) (ms := 6) (Y1 := "java/lang/RuntimeException") (r9 := ["java/lang/Exception"]) hx hb hfl hown (by decide +kernel) (by decide +kernel) (by decide +kernel) (hts _ q866) (hts _ q99) hstr (th_190 hE hts) (by decide +kernel) (EV.zu hE) (EV.zn hE) hS (hl.1.trans hml.symm) dX6_lastRun_7 dX6_lastRun_10 dX6_lastRun_11 dX6_lastRun_14 dX6_lastRun_17 (hout9 _) (Nat.le_of_ble_eq_true rfl) (Nat.le_of_ble_eq_true rfl) (Nat.le_of_ble_eq_true rfl) (Nat.le_of_ble_eq_true rfl) hlocks (fun t9 _ h8 h9 => ⟨(), trivial, ⟨rfl, wP_kept hP h9⟩, fF hS h8 h9⟩) hS.2.2 (by decide) (by decide)
set_option maxHeartbeats 4000000 in
set_option maxRecDepth 100000 in
theorem k_X6_done (l : Launch) (hfl : l.stackTraces = false) (Z : ZT) (hZ : wD Z) (X M O : SS) (o : Int32 ⊕ String) (hf : f_X6_done X = some (o)) (sz : Nat) : vx_Met l yX6_done ws_X6_done rm_X6_done (va_Pc [.ref (Z.2.2 0 0)] (cP Z (X, M, O) sz)) (cQi Z (X, M, O) o sz) (cX Z (X, M, O) o sz) 1 6 (wA Z sz) := by
  refine vx_ofW (cc := cX6_done) (maxL := 1) (ret := (some .int)) (by decide) rfl ?_
  intro p e s m args below meth c s₁ B hml htab hv
  obtain ⟨hargs, hsz, hE, hP, hK⟩ := hv
  have hx := B.exec
  have hb := B.bytes
  have hr := B.returns
  have hts0 := atoms_spec (ws := ws_X6_done) B.pre
  have hts : ∀ w ∈ lw_all, w.before args s = true := fun w h => hts0 w (List.mem_cons_of_mem _ h)
  have hown : s.vm.findClass RX6 = some m.cls := findClass_of_methodNamed B.named
  have hlocks := B.notSynchronized
  have hout9 : ∀ (pc9 : Nat), ∀ x ∈ c.exceptionTable.toList, covers x pc9 = false := fun _ x hx9 => (htab x hx9).elim
  subst hsz
  have hS : va_S (wA Z s.heap.size) s.heap s.heap [] := va_S.rf
  have hl := lv_entry ([.ref (Z.2.2 0 0)]) (n := 1) (Nat.le_of_ble_eq_true rfl)
  have hen : entryFrame m args 1 = entryFrame m ([.ref (Z.2.2 0 0)] : List Value).toArray 1 := by rw [hargs]
  rw [hen, lg_entry_eq]
  generalize (lg_sl ([.ref (Z.2.2 0 0)]) ++ List.replicate (1 - (lg_sl ([.ref (Z.2.2 0 0)])).length) Slot.unset).toArray = ls at hl ⊢
  have hl : lv_has ls 1 [(0, .ref (Z.2.2 0 0))] := hl
  have hk := hf
  unfold f_X6_done at hk
  refine lv_aload_n hx hb dX6_done_0 rfl (lv_at hl 0 rfl) ?_
  obtain ⟨o3, hf2, hn5, he6⟩ := e0_s hk
  refine wc_qV (kd := 16) (rest := []) (As := []) ⟨hx, hb, hml, hown, hts⟩ (fun sz => k_X6_lastRun l hfl Z hZ X M O o3 hf2 sz) (cw_RX6_176 (args := args) (s := s) hts (Nat.le_of_ble_eq_true rfl) (Nat.le_of_ble_eq_true rfl)) hE hP hK hS (rv_0 hK hP (by decide)) rfl hl.1 rfl (Nat.le_of_ble_eq_true rfl) dX6_done_1 ⟨Nat.le_of_ble_eq_true rfl, Nat.le_of_ble_eq_true rfl⟩ (fun E4 ce9 q9 H locs hoE hP hS hc9 hv9 hcl9 => ?_) (fun i1 hi1 H locs ho hP hS => ?_)
  · have hk := he6 _ hoE
    cases (show some _ = some _ from hk)
    exact vx_out (hout9 _) hlocks hc9 hv9 hcl9 (fun t8 ht8 hA8 => ⟨(), trivial, ⟨rfl, wP_eq ht8 hP⟩, hS.F ht8⟩) hS.2.2 (by decide) (by decide)
  have hk := hn5 _ ho
  refine gf_RX6_180 hx hb hts hown hK hP hi1 dX6_done_4 ?_
  cases (show some _ = some _ from hk)
  exact we_i hx hb hr hlocks hP rfl hS dX6_done_7 (by decide) (by decide)
set_option maxHeartbeats 4000000 in
set_option maxRecDepth 100000 in
theorem k_X6_outputs (l : Launch) (hfl : l.stackTraces = false) (Z : ZT) (hZ : wD Z) (X M O : SS) (o : Int32 ⊕ String) (hf : f_X6_outputs X = some (o)) (sz : Nat) : vx_Met l yX6_outputs ws_X6_outputs rm_X6_outputs (va_Pc [.ref (Z.2.2 0 0)] (cP Z (X, M, O) sz)) (cQi Z (X, M, O) o sz) (cX Z (X, M, O) o sz) 1 6 (wA Z sz) := by
  refine vx_ofW (cc := cX6_outputs) (maxL := 1) (ret := (some .int)) (by decide) rfl ?_
  intro p e s m args below meth c s₁ B hml htab hv
  obtain ⟨hargs, hsz, hE, hP, hK⟩ := hv
  have hx := B.exec
  have hb := B.bytes
  have hr := B.returns
  have hts0 := atoms_spec (ws := ws_X6_outputs) B.pre
  have hts : ∀ w ∈ lw_all, w.before args s = true := fun w h => hts0 w (List.mem_cons_of_mem _ h)
  have hown : s.vm.findClass RX6 = some m.cls := findClass_of_methodNamed B.named
  have hlocks := B.notSynchronized
  have hout9 : ∀ (pc9 : Nat), ∀ x ∈ c.exceptionTable.toList, covers x pc9 = false := fun _ x hx9 => (htab x hx9).elim
  subst hsz
  have hS : va_S (wA Z s.heap.size) s.heap s.heap [] := va_S.rf
  have hl := lv_entry ([.ref (Z.2.2 0 0)]) (n := 1) (Nat.le_of_ble_eq_true rfl)
  have hen : entryFrame m args 1 = entryFrame m ([.ref (Z.2.2 0 0)] : List Value).toArray 1 := by rw [hargs]
  rw [hen, lg_entry_eq]
  generalize (lg_sl ([.ref (Z.2.2 0 0)]) ++ List.replicate (1 - (lg_sl ([.ref (Z.2.2 0 0)])).length) Slot.unset).toArray = ls at hl ⊢
  have hl : lv_has ls 1 [(0, .ref (Z.2.2 0 0))] := hl
  have hk := hf
  unfold f_X6_outputs at hk
  refine lv_aload_n hx hb dX6_outputs_0 rfl (lv_at hl 0 rfl) ?_
  obtain ⟨o3, hf2, hn5, he6⟩ := e0_s hk
  refine wc_qV (kd := 16) (rest := []) (As := []) ⟨hx, hb, hml, hown, hts⟩ (fun sz => k_X6_lastRun l hfl Z hZ X M O o3 hf2 sz) (cw_RX6_176 (args := args) (s := s) hts (Nat.le_of_ble_eq_true rfl) (Nat.le_of_ble_eq_true rfl)) hE hP hK hS (rv_0 hK hP (by decide)) rfl hl.1 rfl (Nat.le_of_ble_eq_true rfl) dX6_outputs_1 ⟨Nat.le_of_ble_eq_true rfl, Nat.le_of_ble_eq_true rfl⟩ (fun E4 ce9 q9 H locs hoE hP hS hc9 hv9 hcl9 => ?_) (fun i1 hi1 H locs ho hP hS => ?_)
  · have hk := he6 _ hoE
    cases (show some _ = some _ from hk)
    exact vx_out (hout9 _) hlocks hc9 hv9 hcl9 (fun t8 ht8 hA8 => ⟨(), trivial, ⟨rfl, wP_eq ht8 hP⟩, hS.F ht8⟩) hS.2.2 (by decide) (by decide)
  have hk := hn5 _ ho
  refine gf_RX6_183 hx hb hts hown hK hP hi1 dX6_outputs_4 ?_
  cases (show some _ = some _ from hk)
  exact we_i hx hb hr hlocks hP rfl hS dX6_outputs_7 (by decide) (by decide)
set_option maxHeartbeats 4000000 in
set_option maxRecDepth 100000 in
theorem k_X6_output (l : Launch) (hfl : l.stackTraces = false) (Z : ZT) (hZ : wD Z) (X M O : SS) (p0 : Int32) (o : Int32 ⊕ String) (hf : f_X6_output X p0 = some (o)) (sz : Nat) : vx_Met l yX6_output ws_X6_output rm_X6_output (va_Pc [.ref (Z.2.2 0 0), .int p0] (cP Z (X, M, O) sz)) (cQi Z (X, M, O) o sz) (cX Z (X, M, O) o sz) 2 12 (wA Z sz) := by
  refine vx_ofW (cc := cX6_output) (maxL := 3) (ret := (some .int)) (by decide) rfl ?_
  intro p e s m args below meth c s₁ B hml htab hv
  obtain ⟨hargs, hsz, hE, hP, hK⟩ := hv
  have hx := B.exec
  have hb := B.bytes
  have hr := B.returns
  have hts0 := atoms_spec (ws := ws_X6_output) B.pre
  have hts : ∀ w ∈ lw_all, w.before args s = true := fun w h => hts0 w (List.mem_cons_of_mem _ h)
  have hown : s.vm.findClass RX6 = some m.cls := findClass_of_methodNamed B.named
  have hlocks := B.notSynchronized
  have hout9 : ∀ (pc9 : Nat), ∀ x ∈ c.exceptionTable.toList, covers x pc9 = false := fun _ x hx9 => (htab x hx9).elim
  subst hsz
  have hS : va_S (wA Z s.heap.size) s.heap s.heap [] := va_S.rf
  have hl := lv_entry ([.ref (Z.2.2 0 0), .int p0]) (n := 3) (Nat.le_of_ble_eq_true rfl)
  have hen : entryFrame m args 3 = entryFrame m ([.ref (Z.2.2 0 0), .int p0] : List Value).toArray 3 := by rw [hargs]
  rw [hen, lg_entry_eq]
  generalize (lg_sl ([.ref (Z.2.2 0 0), .int p0]) ++ List.replicate (3 - (lg_sl ([.ref (Z.2.2 0 0), .int p0])).length) Slot.unset).toArray = ls at hl ⊢
  have hl : lv_has ls 3 [(0, .ref (Z.2.2 0 0)), (1, .int p0)] := hl
  have hk := hf
  unfold f_X6_output at hk
  refine lv_aload_n hx hb dX6_output_0 rfl (lv_at hl 0 rfl) ?_
  obtain ⟨o3, hf2, hn5, he6⟩ := e0_s hk
  refine wc_qV (kd := 16) (rest := []) (As := []) ⟨hx, hb, hml, hown, hts⟩ (fun sz => k_X6_lastRun l hfl Z hZ X M O o3 hf2 sz) (cw_RX6_176 (args := args) (s := s) hts (Nat.le_of_ble_eq_true rfl) (Nat.le_of_ble_eq_true rfl)) hE hP hK hS (rv_0 hK hP (by decide)) rfl hl.1 rfl (Nat.le_of_ble_eq_true rfl) dX6_output_1 ⟨Nat.le_of_ble_eq_true rfl, Nat.le_of_ble_eq_true rfl⟩ (fun E4 ce9 q9 H locs hoE hP hS hc9 hv9 hcl9 => ?_) (fun i1 hi1 H locs ho hP hS => ?_)
  · have hk := he6 _ hoE
    cases (show some _ = some _ from hk)
    exact vx_out (hout9 _) hlocks hc9 hv9 hcl9 (fun t8 ht8 hA8 => ⟨(), trivial, ⟨rfl, wP_eq ht8 hP⟩, hS.F ht8⟩) hS.2.2 (by decide) (by decide)
  have hk := hn5 _ ho
  refine lv_astore_n (lv' := [(2, .ref (Z.2.2 16 i1)), (0, .ref (Z.2.2 0 0)), (1, .int p0)]) hx hb dX6_output_4 rfl hl (by decide) rfl (fun ls hl => ?_)
  refine lv_iload_n hx hb dX6_output_5 rfl (lv_at hl 2 rfl) ?_
  refine lv_if_lt (tgt := 17) hx hb dX6_output_6 (by decide) (fun cz7 => ?_) (fun cz7 => ?_)
  · have hk := it_t cz7 hk
    cases (show some _ = some _ from hk)
    obtain ⟨sa, hstr⟩ := EV.str hE (own := RX6) (k := 188) (tx := "no such number") (by decide +kernel)
    exact ng_throwS (mc := 2) (ms := 12) (Y1 := "java/lang/RuntimeException") (r9 := ["java/lang/Exception"]) hx hb hfl hown (by decide +kernel) (by decide +kernel) (by decide +kernel) (hts _ q866) (hts _ q99) hstr (th_190 hE hts) (by decide +kernel) (EV.zu hE) (EV.zn hE) hS (hl.1.trans hml.symm) dX6_output_17 dX6_output_20 dX6_output_21 dX6_output_23 dX6_output_26 (hout9 _) (Nat.le_of_ble_eq_true rfl) (Nat.le_of_ble_eq_true rfl) (Nat.le_of_ble_eq_true rfl) (Nat.le_of_ble_eq_true rfl) hlocks (fun t9 _ h8 h9 => ⟨(), trivial, ⟨rfl, wP_kept hP h9⟩, fF hS h8 h9⟩) hS.2.2 (by decide) (by decide)
  · have hk := it_f cz7 hk
    refine lv_iload_n hx hb dX6_output_9 rfl (lv_at hl 2 rfl) ?_
    refine lv_aload_n hx hb dX6_output_10 rfl (lv_at hl 0 rfl) ?_
    refine gf_RX6_183 hx hb hts hown hK hP hi1 dX6_output_11 ?_
    refine lv_icmp_lt (tgt := 27) hx hb dX6_output_14 (by decide) (fun cz8 => ?_) (fun cz8 => ?_)
    · have hk := it_t cz8 hk
      refine lv_aload_n hx hb dX6_output_27 rfl (lv_at hl 0 rfl) ?_
      refine gf_RX6_191 hx hb hts hown hK hP hi1 dX6_output_28 ?_
      refine lv_iload_n hx hb dX6_output_31 rfl (lv_at hl 2 rfl) ?_
      obtain ⟨hg9, hk⟩ := gd_s hk
      refine wa_iaload_18 hx hb hK hP hi1 hg9 dX6_output_32 ?_
      cases (show some _ = some _ from hk)
      exact we_i hx hb hr hlocks hP rfl hS dX6_output_33 (by decide) (by decide)
    · have hk := it_f cz8 hk
      cases (show some _ = some _ from hk)
      obtain ⟨sa, hstr⟩ := EV.str hE (own := RX6) (k := 188) (tx := "no such number") (by decide +kernel)
      exact ng_throwS (mc := 2) (ms := 12) (Y1 := "java/lang/RuntimeException") (r9 := ["java/lang/Exception"]) hx hb hfl hown (by decide +kernel) (by decide +kernel) (by decide +kernel) (hts _ q866) (hts _ q99) hstr (th_190 hE hts) (by decide +kernel) (EV.zu hE) (EV.zn hE) hS (hl.1.trans hml.symm) dX6_output_17 dX6_output_20 dX6_output_21 dX6_output_23 dX6_output_26 (hout9 _) (Nat.le_of_ble_eq_true rfl) (Nat.le_of_ble_eq_true rfl) (Nat.le_of_ble_eq_true rfl) (Nat.le_of_ble_eq_true rfl) hlocks (fun t9 _ h8 h9 => ⟨(), trivial, ⟨rfl, wP_kept hP h9⟩, fF hS h8 h9⟩) hS.2.2 (by decide) (by decide)
set_option maxHeartbeats 4000000 in
set_option maxRecDepth 100000 in
theorem k_X6_depth (l : Launch) (hfl : l.stackTraces = false) (Z : ZT) (hZ : wD Z) (X M O : SS) (o : Int32 ⊕ String) (hf : f_X6_depth X = some (o)) (sz : Nat) : vx_Met l yX6_depth ws_X6_depth rm_X6_depth (va_Pc [.ref (Z.2.2 0 0)] (cP Z (X, M, O) sz)) (cQi Z (X, M, O) o sz) (cX Z (X, M, O) o sz) 1 6 (wA Z sz) := by
  refine vx_ofW (cc := cX6_depth) (maxL := 1) (ret := (some .int)) (by decide) rfl ?_
  intro p e s m args below meth c s₁ B hml htab hv
  obtain ⟨hargs, hsz, hE, hP, hK⟩ := hv
  have hx := B.exec
  have hb := B.bytes
  have hr := B.returns
  have hts0 := atoms_spec (ws := ws_X6_depth) B.pre
  have hts : ∀ w ∈ lw_all, w.before args s = true := fun w h => hts0 w (List.mem_cons_of_mem _ h)
  have hown : s.vm.findClass RX6 = some m.cls := findClass_of_methodNamed B.named
  have hlocks := B.notSynchronized
  have hout9 : ∀ (pc9 : Nat), ∀ x ∈ c.exceptionTable.toList, covers x pc9 = false := fun _ x hx9 => (htab x hx9).elim
  subst hsz
  have hS : va_S (wA Z s.heap.size) s.heap s.heap [] := va_S.rf
  have hl := lv_entry ([.ref (Z.2.2 0 0)]) (n := 1) (Nat.le_of_ble_eq_true rfl)
  have hen : entryFrame m args 1 = entryFrame m ([.ref (Z.2.2 0 0)] : List Value).toArray 1 := by rw [hargs]
  rw [hen, lg_entry_eq]
  generalize (lg_sl ([.ref (Z.2.2 0 0)]) ++ List.replicate (1 - (lg_sl ([.ref (Z.2.2 0 0)])).length) Slot.unset).toArray = ls at hl ⊢
  have hl : lv_has ls 1 [(0, .ref (Z.2.2 0 0))] := hl
  have hk := hf
  unfold f_X6_depth at hk
  refine lv_aload_n hx hb dX6_depth_0 rfl (lv_at hl 0 rfl) ?_
  obtain ⟨o3, hf2, hn5, he6⟩ := e0_s hk
  refine wc_qV (kd := 16) (rest := []) (As := []) ⟨hx, hb, hml, hown, hts⟩ (fun sz => k_X6_lastRun l hfl Z hZ X M O o3 hf2 sz) (cw_RX6_176 (args := args) (s := s) hts (Nat.le_of_ble_eq_true rfl) (Nat.le_of_ble_eq_true rfl)) hE hP hK hS (rv_0 hK hP (by decide)) rfl hl.1 rfl (Nat.le_of_ble_eq_true rfl) dX6_depth_1 ⟨Nat.le_of_ble_eq_true rfl, Nat.le_of_ble_eq_true rfl⟩ (fun E4 ce9 q9 H locs hoE hP hS hc9 hv9 hcl9 => ?_) (fun i1 hi1 H locs ho hP hS => ?_)
  · have hk := he6 _ hoE
    cases (show some _ = some _ from hk)
    exact vx_out (hout9 _) hlocks hc9 hv9 hcl9 (fun t8 ht8 hA8 => ⟨(), trivial, ⟨rfl, wP_eq ht8 hP⟩, hS.F ht8⟩) hS.2.2 (by decide) (by decide)
  have hk := hn5 _ ho
  refine gf_RX6_194 hx hb hts hown hK hP hi1 dX6_depth_4 ?_
  cases (show some _ = some _ from hk)
  exact we_i hx hb hr hlocks hP rfl hS dX6_depth_7 (by decide) (by decide)
set_option maxHeartbeats 4000000 in
set_option maxRecDepth 100000 in
theorem k_X6_member (l : Launch) (hfl : l.stackTraces = false) (Z : ZT) (hZ : wD Z) (X M O : SS) (Xz : SS) (o : Int32 ⊕ String) (hf : f_X6_member X = some (Xz, o)) (sz : Nat) : vx_Met l yX6_member ws_X6_member rm_X6_member (va_Pc [.ref (Z.2.2 0 0)] (cP Z (X, M, O) sz)) (cQi Z (Xz, M, O) o sz) (cX Z (Xz, M, O) o sz) 1 6 (wA Z sz) := by
  refine vx_ofW (cc := cX6_member) (maxL := 1) (ret := (some .int)) (by decide) rfl ?_
  intro p e s m args below meth c s₁ B hml htab hv
  obtain ⟨hargs, hsz, hE, hP, hK⟩ := hv
  have hx := B.exec
  have hb := B.bytes
  have hr := B.returns
  have hts0 := atoms_spec (ws := ws_X6_member) B.pre
  have hts : ∀ w ∈ lw_all, w.before args s = true := fun w h => hts0 w (List.mem_cons_of_mem _ h)
  have hown : s.vm.findClass RX6 = some m.cls := findClass_of_methodNamed B.named
  have hlocks := B.notSynchronized
  have hout9 : ∀ (pc9 : Nat), ∀ x ∈ c.exceptionTable.toList, covers x pc9 = false := fun _ x hx9 => (htab x hx9).elim
  subst hsz
  have hS : va_S (wA Z s.heap.size) s.heap s.heap [] := va_S.rf
  have hl := lv_entry ([.ref (Z.2.2 0 0)]) (n := 1) (Nat.le_of_ble_eq_true rfl)
  have hen : entryFrame m args 1 = entryFrame m ([.ref (Z.2.2 0 0)] : List Value).toArray 1 := by rw [hargs]
  rw [hen, lg_entry_eq]
  generalize (lg_sl ([.ref (Z.2.2 0 0)]) ++ List.replicate (1 - (lg_sl ([.ref (Z.2.2 0 0)])).length) Slot.unset).toArray = ls at hl ⊢
  have hl : lv_has ls 1 [(0, .ref (Z.2.2 0 0))] := hl
  have hk := hf
  unfold f_X6_member at hk
  refine lv_aload_n hx hb dX6_member_0 rfl (lv_at hl 0 rfl) ?_
  refine gf_RX6_62 hx hb hts hown hK hP (by decide) dX6_member_1 ?_
  refine lv_bipush (v := (10 : Int32)) hx hb dX6_member_4 (by decide) ?_
  refine lv_icmp_lt (tgt := 19) hx hb dX6_member_6 (by decide) (fun cz1 => ?_) (fun cz1 => ?_)
  · have hk := it_t cz1 hk
    refine lv_aload_n hx hb dX6_member_19 rfl (lv_at hl 0 rfl) ?_
    refine lv_dup hx hb dX6_member_20 rfl ?_
    refine gf_RX6_62 hx hb hts hown hK hP (by decide) dX6_member_21 ?_
    refine lv_iconst (v := (1 : Int32)) hx hb dX6_member_24 (by decide) ?_
    refine lv_iadd hx hb dX6_member_25 ?_
    obtain ⟨X2, eX2, hk⟩ := lq_s hk
    refine pf_RX6_62 hx hb hts hown hZ hK hP hS (by decide) dX6_member_26 (fun H locs hP hS => ?_)
    rw [← eX2] at hP
    refine lv_aload_n hx hb dX6_member_29 rfl (lv_at hl 0 rfl) ?_
    refine gf_RX6_62 hx hb hts hown hK hP (by decide) dX6_member_30 ?_
    refine lv_iconst (v := (1 : Int32)) hx hb dX6_member_33 (by decide) ?_
    refine lv_isub hx hb dX6_member_34 ?_
    cases (show some _ = some _ from hk)
    exact we_i hx hb hr hlocks hP rfl hS dX6_member_35 (by decide) (by decide)
  · have hk := it_f cz1 hk
    cases (show some _ = some _ from hk)
    obtain ⟨sa, hstr⟩ := EV.str hE (own := RX6) (k := 197) (tx := "there are 10 members") (by decide +kernel)
    exact vx_throwS (mc := 1) (ms := 6) (names := ["java/lang/RuntimeException", "java/lang/Exception"]) hx hb hfl hown (by decide +kernel) (by decide +kernel) (hts _ q705) (hts _ q95) hstr (th_112 hE hts) (by decide +kernel) (EV.zu hE) (EV.zn hE) hS (hl.1.trans hml.symm) dX6_member_9 dX6_member_12 dX6_member_13 dX6_member_15 dX6_member_18 (hout9 _) (Nat.le_of_ble_eq_true rfl) (Nat.le_of_ble_eq_true rfl) (Nat.le_of_ble_eq_true rfl) (Nat.le_of_ble_eq_true rfl) hlocks (fun t9 _ h8 h9 => ⟨(), trivial, ⟨rfl, wP_kept hP h9⟩, fF hS h8 h9⟩) hS.2.2 (by decide) (by decide)
set_option maxHeartbeats 4000000 in
set_option maxRecDepth 100000 in
theorem k_X6_memberAt (l : Launch) (hfl : l.stackTraces = false) (Z : ZT) (hZ : wD Z) (X M O : SS) (p0 : Int32) (o : Nat ⊕ String) (hf : f_X6_memberAt X p0 = some (o)) (sz : Nat) : vx_Met l yX6_memberAt ws_X6_memberAt rm_X6_memberAt (va_Pc [.ref (Z.2.2 0 0), .int p0] (cP Z (X, M, O) sz)) (cQq Z 9 (X, M, O) o sz) (cX Z (X, M, O) o sz) 1 6 (wA Z sz) := by
  refine vx_ofW (cc := cX6_memberAt) (maxL := 2) (ret := (some (.object "Katacode$Member"))) (by decide) rfl ?_
  intro p e s m args below meth c s₁ B hml htab hv
  obtain ⟨hargs, hsz, hE, hP, hK⟩ := hv
  have hx := B.exec
  have hb := B.bytes
  have hr := B.returns
  have hts0 := atoms_spec (ws := ws_X6_memberAt) B.pre
  have hts : ∀ w ∈ lw_all, w.before args s = true := fun w h => hts0 w (List.mem_cons_of_mem _ h)
  have hown : s.vm.findClass RX6 = some m.cls := findClass_of_methodNamed B.named
  have hlocks := B.notSynchronized
  have hout9 : ∀ (pc9 : Nat), ∀ x ∈ c.exceptionTable.toList, covers x pc9 = false := fun _ x hx9 => (htab x hx9).elim
  subst hsz
  have hS : va_S (wA Z s.heap.size) s.heap s.heap [] := va_S.rf
  have hl := lv_entry ([.ref (Z.2.2 0 0), .int p0]) (n := 2) (Nat.le_of_ble_eq_true rfl)
  have hen : entryFrame m args 2 = entryFrame m ([.ref (Z.2.2 0 0), .int p0] : List Value).toArray 2 := by rw [hargs]
  rw [hen, lg_entry_eq]
  generalize (lg_sl ([.ref (Z.2.2 0 0), .int p0]) ++ List.replicate (2 - (lg_sl ([.ref (Z.2.2 0 0), .int p0])).length) Slot.unset).toArray = ls at hl ⊢
  have hl : lv_has ls 2 [(0, .ref (Z.2.2 0 0)), (1, .int p0)] := hl
  have hk := hf
  unfold f_X6_memberAt at hk
  refine lv_iload_n hx hb dX6_memberAt_0 rfl (lv_at hl 1 rfl) ?_
  refine lv_if_lt (tgt := 12) hx hb dX6_memberAt_1 (by decide) (fun cz1 => ?_) (fun cz1 => ?_)
  · have hk := it_t cz1 hk
    cases (show some _ = some _ from hk)
    obtain ⟨sa, hstr⟩ := EV.str hE (own := RX6) (k := 411) (tx := "no such member") (by decide +kernel)
    exact vx_throwSW (mc := 1) (ms := 6) (names := ["java/lang/RuntimeException", "java/lang/Exception"]) hx hb hfl hown (by decide +kernel) (by decide +kernel) (hts _ q785) (hts _ q96) hstr (th_408 hE hts) (by decide +kernel) (EV.zu hE) (EV.zn hE) hS (hl.1.trans hml.symm) dX6_memberAt_12 dX6_memberAt_15 dX6_memberAt_16 dX6_memberAt_19 dX6_memberAt_22 (hout9 _) (Nat.le_of_ble_eq_true rfl) (Nat.le_of_ble_eq_true rfl) (Nat.le_of_ble_eq_true rfl) (Nat.le_of_ble_eq_true rfl) hlocks (fun t9 _ h8 h9 => ⟨(), trivial, ⟨rfl, wP_kept hP h9⟩, fF hS h8 h9⟩) hS.2.2 (by decide) (by decide)
  · have hk := it_f cz1 hk
    refine lv_iload_n hx hb dX6_memberAt_4 rfl (lv_at hl 1 rfl) ?_
    refine lv_aload_n hx hb dX6_memberAt_5 rfl (lv_at hl 0 rfl) ?_
    refine gf_RX6_62 hx hb hts hown hK hP (by decide) dX6_memberAt_6 ?_
    refine lv_icmp_lt (tgt := 23) hx hb dX6_memberAt_9 (by decide) (fun cz2 => ?_) (fun cz2 => ?_)
    · have hk := it_t cz2 hk
      refine lv_aload_n hx hb dX6_memberAt_23 rfl (lv_at hl 0 rfl) ?_
      refine gf_RX6_31 hx hb hts hown hK hP (by decide) dX6_memberAt_24 ?_
      refine lv_iload_n hx hb dX6_memberAt_27 rfl (lv_at hl 1 rfl) ?_
      obtain ⟨hg3, hk⟩ := gd_s hk
      refine wa_aaload_22 hx hb hK hP (by decide) hg3 dX6_memberAt_28 ?_
      cases (show some _ = some _ from hk)
      exact we_q (kd := 9) (i := (p0).toNatClampNeg) hx hb hr hlocks (Or.inl ⟨_, rfl⟩) hP (vp_lt hg3) rfl hS dX6_memberAt_29 (by decide) (by decide)
    · have hk := it_f cz2 hk
      cases (show some _ = some _ from hk)
      obtain ⟨sa, hstr⟩ := EV.str hE (own := RX6) (k := 411) (tx := "no such member") (by decide +kernel)
      exact vx_throwSW (mc := 1) (ms := 6) (names := ["java/lang/RuntimeException", "java/lang/Exception"]) hx hb hfl hown (by decide +kernel) (by decide +kernel) (hts _ q785) (hts _ q96) hstr (th_408 hE hts) (by decide +kernel) (EV.zu hE) (EV.zn hE) hS (hl.1.trans hml.symm) dX6_memberAt_12 dX6_memberAt_15 dX6_memberAt_16 dX6_memberAt_19 dX6_memberAt_22 (hout9 _) (Nat.le_of_ble_eq_true rfl) (Nat.le_of_ble_eq_true rfl) (Nat.le_of_ble_eq_true rfl) (Nat.le_of_ble_eq_true rfl) hlocks (fun t9 _ h8 h9 => ⟨(), trivial, ⟨rfl, wP_kept hP h9⟩, fF hS h8 h9⟩) hS.2.2 (by decide) (by decide)
set_option maxHeartbeats 4000000 in
set_option maxRecDepth 100000 in
theorem k_X6_bodyCount (l : Launch) (hfl : l.stackTraces = false) (Z : ZT) (hZ : wD Z) (X M O : SS) (r : Int32) (hf : f_X6_bodyCount X = some (r)) (sz : Nat) : vx_Met l yX6_bodyCount ws_X6_bodyCount rm_X6_bodyCount (va_Pc [.ref (Z.2.2 0 0)] (cP Z (X, M, O) sz)) (cQi Z (X, M, O) (.inl r) sz) (cX Z (X, M, O) (.inl r : Int32 ⊕ String) sz) 0 0 (wA Z sz) := by
  refine vx_ofW (cc := cX6_bodyCount) (maxL := 3) (ret := (some .int)) (by decide) rfl ?_
  intro p e s m args below meth c s₁ B hml htab hv
  obtain ⟨hargs, hsz, hE, hP, hK⟩ := hv
  have hx := B.exec
  have hb := B.bytes
  have hr := B.returns
  have hts0 := atoms_spec (ws := ws_X6_bodyCount) B.pre
  have hts : ∀ w ∈ lw_all, w.before args s = true := fun w h => hts0 w (List.mem_cons_of_mem _ h)
  have hown : s.vm.findClass RX6 = some m.cls := findClass_of_methodNamed B.named
  have hlocks := B.notSynchronized
  have hout9 : ∀ (pc9 : Nat), ∀ x ∈ c.exceptionTable.toList, covers x pc9 = false := fun _ x hx9 => (htab x hx9).elim
  subst hsz
  have hS : va_S (wA Z s.heap.size) s.heap s.heap [] := va_S.rf
  have hl := lv_entry ([.ref (Z.2.2 0 0)]) (n := 3) (Nat.le_of_ble_eq_true rfl)
  have hen : entryFrame m args 3 = entryFrame m ([.ref (Z.2.2 0 0)] : List Value).toArray 3 := by rw [hargs]
  rw [hen, lg_entry_eq]
  generalize (lg_sl ([.ref (Z.2.2 0 0)]) ++ List.replicate (3 - (lg_sl ([.ref (Z.2.2 0 0)])).length) Slot.unset).toArray = ls at hl ⊢
  have hl : lv_has ls 3 [(0, .ref (Z.2.2 0 0))] := hl
  have hk := hf
  unfold f_X6_bodyCount at hk
  refine lv_iconst (v := (0 : Int32)) hx hb dX6_bodyCount_0 (by decide) ?_
  refine lv_istore_n (lv' := [(1, .int (0 : Int32)), (0, .ref (Z.2.2 0 0))]) hx hb dX6_bodyCount_1 rfl hl (by decide) rfl (fun ls hl => ?_)
  refine lv_iconst (v := (0 : Int32)) hx hb dX6_bodyCount_2 (by decide) ?_
  refine lv_istore_n (lv' := [(2, .int (0 : Int32)), (1, .int (0 : Int32)), (0, .ref (Z.2.2 0 0))]) hx hb dX6_bodyCount_3 rfl hl (by decide) rfl (fun ls hl => ?_)
  obtain ⟨k1, hk1, hk⟩ := gn hk
  have ex1 : ∀ (v2 : Int32) (H : Heap) (locs : List Loc) (ls : Array Slot), k1 v2 = some (r) → wP Z (X, M, O) H → va_S (wA Z s.heap.size) s.heap H locs → lv_has ls 3 [(1, .int v2)] → W p l e (headSpec ws_X6_bodyCount rm_X6_bodyCount).room s m args below meth c H locs 0 0 (vx_MQ below (cQi Z (X, M, O) (.inl r) s.heap.size) (cX Z (X, M, O) (.inl r : Int32 ⊕ String) s.heap.size) args s 0 0 (wA Z s.heap.size)) (F0 m 38 ls []) := by
    intro v2 H locs ls hk hP hS hl
    subst hk1
    refine lv_iload_n hx hb dX6_bodyCount_38 rfl (lv_at hl 0 rfl) ?_
    cases (show some _ = some _ from hk)
    exact we_i hx hb hr hlocks hP rfl hS dX6_bodyCount_39 (by decide) (by decide)
  have lp1 : ∀ (n : Nat) (v3 : Int32) (v4 : Int32) (H : Heap) (locs : List Loc) (ls : Array Slot), f_X6_bodyCount_L4 X n v3 v4 k1 = some (r) → wP Z (X, M, O) H → va_S (wA Z s.heap.size) s.heap H locs → lv_has ls 3 [(2, .int v3), (1, .int v4), (0, .ref (Z.2.2 0 0))] → W p l e (headSpec ws_X6_bodyCount rm_X6_bodyCount).room s m args below meth c H locs 0 0 (vx_MQ below (cQi Z (X, M, O) (.inl r) s.heap.size) (cX Z (X, M, O) (.inl r : Int32 ⊕ String) s.heap.size) args s 0 0 (wA Z s.heap.size)) (F0 m 4 ls []) := by
    intro n
    induction n with
    | zero =>
      intro v3 v4 H locs ls hk
      rw [f_X6_bodyCount_L4] at hk
      exact nomatch (show none = some _ from hk)
    | succ n ih =>
      intro v3 v4 H locs ls hk hP hS hl
      rw [f_X6_bodyCount_L4] at hk
      refine lv_iload_n hx hb dX6_bodyCount_4 rfl (lv_at hl 0 rfl) ?_
      refine lv_aload_n hx hb dX6_bodyCount_5 rfl (lv_at hl 2 rfl) ?_
      refine gf_RX6_65 hx hb hts hown hK hP (by decide) dX6_bodyCount_6 ?_
      refine lv_icmp_ge (tgt := 38) hx hb dX6_bodyCount_9 (by decide) (fun cz5 => ?_) (fun cz5 => ?_)
      · have hk := it_t cz5 hk
        exact ex1 v4 _ _ _ hk hP hS (lv_sub hl [1] rfl)
      · have hk := it_f cz5 hk
        refine lv_iload_n hx hb dX6_bodyCount_12 rfl (lv_at hl 1 rfl) ?_
        refine lv_aload_n hx hb dX6_bodyCount_13 rfl (lv_at hl 2 rfl) ?_
        refine gf_RX6_37 hx hb hts hown hK hP (by decide) dX6_bodyCount_14 ?_
        refine lv_iload_n hx hb dX6_bodyCount_17 rfl (lv_at hl 0 rfl) ?_
        obtain ⟨hg6, hk⟩ := gd_s hk
        refine wa_aaload_23 hx hb hK hP (by decide) hg6 dX6_bodyCount_18 ?_
        refine gf_RX6_252 hx hb hts hown hK hP (vp_lt hg6) dX6_bodyCount_19 ?_
        refine lv_if_eq (tgt := 29) hx hb dX6_bodyCount_22 (by decide) (fun cz7 => ?_) (fun cz7 => ?_)
        · have hk := it_t cz7 hk
          refine lv_iconst (v := (0 : Int32)) hx hb dX6_bodyCount_29 (by decide) ?_
          refine lv_iadd hx hb dX6_bodyCount_30 ?_
          obtain ⟨v8, ev8, hk⟩ := lq_s hk
          refine W.eq (g2 := F0 m 31 ls [.int v8]) (by rw [ev8]) ?_
          refine lv_istore_n (lv' := [(1, .int v8), (2, .int v3), (0, .ref (Z.2.2 0 0))]) hx hb dX6_bodyCount_31 rfl hl (by decide) rfl (fun ls hl => ?_)
          refine lv_iinc (v := (v3 + (1 : Int32))) (lv' := [(2, .int (v3 + (1 : Int32))), (1, .int v8), (0, .ref (Z.2.2 0 0))]) hx hb dX6_bodyCount_32 hl (k := 1) rfl rfl (by decide) rfl (fun ls hl => ?_)
          refine lv_goto (tgt := 4) hx hb dX6_bodyCount_35 (by decide) ?_
          exact ih (v3 + (1 : Int32)) v8 _ _ _ hk hP hS (lv_sub hl [0, 1, 2] rfl)
        · have hk := it_f cz7 hk
          refine lv_iconst (v := (1 : Int32)) hx hb dX6_bodyCount_25 (by decide) ?_
          refine lv_goto (tgt := 30) hx hb dX6_bodyCount_26 (by decide) ?_
          refine lv_iadd hx hb dX6_bodyCount_30 ?_
          obtain ⟨v9, ev9, hk⟩ := lq_s hk
          refine W.eq (g2 := F0 m 31 ls [.int v9]) (by rw [ev9]) ?_
          refine lv_istore_n (lv' := [(1, .int v9), (2, .int v3), (0, .ref (Z.2.2 0 0))]) hx hb dX6_bodyCount_31 rfl hl (by decide) rfl (fun ls hl => ?_)
          refine lv_iinc (v := (v3 + (1 : Int32))) (lv' := [(2, .int (v3 + (1 : Int32))), (1, .int v9), (0, .ref (Z.2.2 0 0))]) hx hb dX6_bodyCount_32 hl (k := 1) rfl rfl (by decide) rfl (fun ls hl => ?_)
          refine lv_goto (tgt := 4) hx hb dX6_bodyCount_35 (by decide) ?_
          exact ih (v3 + (1 : Int32)) v9 _ _ _ hk hP hS (lv_sub hl [0, 1, 2] rfl)
  exact lp1 1000 (0 : Int32) (0 : Int32) _ _ _ hk hP hS (lv_sub hl [0, 1, 2] rfl)
set_option maxHeartbeats 4000000 in
set_option maxRecDepth 100000 in
theorem k_X6_isDroppedBefore (l : Launch) (hfl : l.stackTraces = false) (Z : ZT) (hZ : wD Z) (X M O : SS) (i1 : Nat) (i2 : Nat) (hi1 : i1 < 40) (hi2 : i2 < 40) (r : Int32) (hf : f_X6_isDroppedBefore X i1 i2 = some (r)) (sz : Nat) : vx_Met l yX6_isDroppedBefore ws_X6_isDroppedBefore rm_X6_isDroppedBefore (va_Pc [.ref (Z.2.2 12 i1), .ref (Z.2.2 12 i2)] (cP Z (X, M, O) sz)) (cQi Z (X, M, O) (.inl r) sz) (cX Z (X, M, O) (.inl r : Int32 ⊕ String) sz) 0 0 (wA Z sz) := by
  refine vx_ofW (cc := cX6_isDroppedBefore) (maxL := 3) (ret := (some .boolean)) (by decide) rfl ?_
  intro p e s m args below meth c s₁ B hml htab hv
  obtain ⟨hargs, hsz, hE, hP, hK⟩ := hv
  have hx := B.exec
  have hb := B.bytes
  have hr := B.returns
  have hts0 := atoms_spec (ws := ws_X6_isDroppedBefore) B.pre
  have hts : ∀ w ∈ lw_all, w.before args s = true := fun w h => hts0 w (List.mem_cons_of_mem _ h)
  have hown : s.vm.findClass RX6 = some m.cls := findClass_of_methodNamed B.named
  have hlocks := B.notSynchronized
  have hout9 : ∀ (pc9 : Nat), ∀ x ∈ c.exceptionTable.toList, covers x pc9 = false := fun _ x hx9 => (htab x hx9).elim
  subst hsz
  have hS : va_S (wA Z s.heap.size) s.heap s.heap [] := va_S.rf
  have hl := lv_entry ([.ref (Z.2.2 12 i1), .ref (Z.2.2 12 i2)]) (n := 3) (Nat.le_of_ble_eq_true rfl)
  have hen : entryFrame m args 3 = entryFrame m ([.ref (Z.2.2 12 i1), .ref (Z.2.2 12 i2)] : List Value).toArray 3 := by rw [hargs]
  rw [hen, lg_entry_eq]
  generalize (lg_sl ([.ref (Z.2.2 12 i1), .ref (Z.2.2 12 i2)]) ++ List.replicate (3 - (lg_sl ([.ref (Z.2.2 12 i1), .ref (Z.2.2 12 i2)])).length) Slot.unset).toArray = ls at hl ⊢
  have hl : lv_has ls 3 [(0, .ref (Z.2.2 12 i1)), (1, .ref (Z.2.2 12 i2))] := hl
  have hk := hf
  unfold f_X6_isDroppedBefore at hk
  refine lv_aload_n hx hb dX6_isDroppedBefore_0 rfl (lv_at hl 0 rfl) ?_
  refine gf_RX6_238 hx hb hts hown hK hP hi1 dX6_isDroppedBefore_1 ?_
  refine lv_bipush (v := (102 : Int32)) hx hb dX6_isDroppedBefore_4 (by decide) ?_
  have jn2 : ∀ (v1 : Int32) (H : Heap) (locs : List Loc) (ls : Array Slot), f_X6_isDroppedBefore_J14 X i2 i1 v1 = some (r) → wP Z (X, M, O) H → va_S (wA Z s.heap.size) s.heap H locs → lv_has ls 3 [(0, .ref (Z.2.2 12 i1)), (1, .ref (Z.2.2 12 i2))] → W p l e (headSpec ws_X6_isDroppedBefore rm_X6_isDroppedBefore).room s m args below meth c H locs 0 0 (vx_MQ below (cQi Z (X, M, O) (.inl r) s.heap.size) (cX Z (X, M, O) (.inl r : Int32 ⊕ String) s.heap.size) args s 0 0 (wA Z s.heap.size)) (F0 m 14 ls [.int v1]) := by
    intro v1 H locs ls hk hP hS hl
    unfold f_X6_isDroppedBefore_J14 at hk
    refine lv_istore_n (lv' := [(2, .int v1), (0, .ref (Z.2.2 12 i1)), (1, .ref (Z.2.2 12 i2))]) hx hb dX6_isDroppedBefore_14 rfl hl (by decide) rfl (fun ls hl => ?_)
    refine lv_iload_n hx hb dX6_isDroppedBefore_15 rfl (lv_at hl 0 rfl) ?_
    refine lv_aload_n hx hb dX6_isDroppedBefore_16 rfl (lv_at hl 2 rfl) ?_
    refine gf_RX6_238 hx hb hts hown hK hP hi2 dX6_isDroppedBefore_17 ?_
    refine lv_bipush (v := (102 : Int32)) hx hb dX6_isDroppedBefore_20 (by decide) ?_
    have jn4 : ∀ (v3 : Int32) (H : Heap) (locs : List Loc) (ls : Array Slot), f_X6_isDroppedBefore_J30 v1 X i2 i1 v3 = some (r) → wP Z (X, M, O) H → va_S (wA Z s.heap.size) s.heap H locs → lv_has ls 3 [(2, .int v1), (0, .ref (Z.2.2 12 i1)), (1, .ref (Z.2.2 12 i2))] → W p l e (headSpec ws_X6_isDroppedBefore rm_X6_isDroppedBefore).room s m args below meth c H locs 0 0 (vx_MQ below (cQi Z (X, M, O) (.inl r) s.heap.size) (cX Z (X, M, O) (.inl r : Int32 ⊕ String) s.heap.size) args s 0 0 (wA Z s.heap.size)) (F0 m 30 ls [.int v3, .int v1]) := by
      intro v3 H locs ls hk hP hS hl
      unfold f_X6_isDroppedBefore_J30 at hk
      refine lv_icmp_eq (tgt := 35) hx hb dX6_isDroppedBefore_30 (by decide) (fun cz5 => ?_) (fun cz5 => ?_)
      · have hk := it_t cz5 hk
        refine lv_aload_n hx hb dX6_isDroppedBefore_35 rfl (lv_at hl 1 rfl) ?_
        refine gf_RX6_233 hx hb hts hown hK hP hi1 dX6_isDroppedBefore_36 ?_
        refine lv_aload_n hx hb dX6_isDroppedBefore_39 rfl (lv_at hl 2 rfl) ?_
        refine gf_RX6_233 hx hb hts hown hK hP hi2 dX6_isDroppedBefore_40 ?_
        refine lv_icmp_ge (tgt := 50) hx hb dX6_isDroppedBefore_43 (by decide) (fun cz6 => ?_) (fun cz6 => ?_)
        · have hk := it_t cz6 hk
          refine lv_iconst (v := (0 : Int32)) hx hb dX6_isDroppedBefore_50 (by decide) ?_
          cases (show some _ = some _ from hk)
          exact we_z hx hb hr hlocks (show okz (0 : Int32) by unfold okz; decide).1 hP rfl hS dX6_isDroppedBefore_51 (by decide) (by decide)
        · have hk := it_f cz6 hk
          refine lv_iconst (v := (1 : Int32)) hx hb dX6_isDroppedBefore_46 (by decide) ?_
          refine lv_goto (tgt := 51) hx hb dX6_isDroppedBefore_47 (by decide) ?_
          cases (show some _ = some _ from hk)
          exact we_z hx hb hr hlocks (show okz (1 : Int32) by unfold okz; decide).1 hP rfl hS dX6_isDroppedBefore_51 (by decide) (by decide)
      · have hk := it_f cz5 hk
        refine lv_iload_n hx hb dX6_isDroppedBefore_33 rfl (lv_at hl 0 rfl) ?_
        obtain ⟨hg7, hk⟩ := gd_s hk
        cases (show some _ = some _ from hk)
        exact we_z hx hb hr hlocks hg7.1 hP rfl hS dX6_isDroppedBefore_34 (by decide) (by decide)
    refine lv_icmp_ne (tgt := 29) hx hb dX6_isDroppedBefore_22 (by decide) (fun cz8 => ?_) (fun cz8 => ?_)
    · have hk := it_f cz8 hk
      refine lv_iconst (v := (0 : Int32)) hx hb dX6_isDroppedBefore_29 (by decide) ?_
      exact jn4 (0 : Int32) _ _ _ hk hP hS (lv_sub hl [0, 1, 2] rfl)
    · have hk := it_t cz8 hk
      refine lv_iconst (v := (1 : Int32)) hx hb dX6_isDroppedBefore_25 (by decide) ?_
      refine lv_goto (tgt := 30) hx hb dX6_isDroppedBefore_26 (by decide) ?_
      exact jn4 (1 : Int32) _ _ _ hk hP hS (lv_sub hl [0, 1, 2] rfl)
  refine lv_icmp_ne (tgt := 13) hx hb dX6_isDroppedBefore_6 (by decide) (fun cz9 => ?_) (fun cz9 => ?_)
  · have hk := it_f cz9 hk
    refine lv_iconst (v := (0 : Int32)) hx hb dX6_isDroppedBefore_13 (by decide) ?_
    exact jn2 (0 : Int32) _ _ _ hk hP hS (lv_sub hl [0, 1] rfl)
  · have hk := it_t cz9 hk
    refine lv_iconst (v := (1 : Int32)) hx hb dX6_isDroppedBefore_9 (by decide) ?_
    refine lv_goto (tgt := 14) hx hb dX6_isDroppedBefore_10 (by decide) ?_
    exact jn2 (1 : Int32) _ _ _ hk hP hS (lv_sub hl [0, 1] rfl)
set_option maxHeartbeats 4000000 in
set_option maxRecDepth 100000 in
theorem k_X6_nextToDrop (l : Launch) (hfl : l.stackTraces = false) (Z : ZT) (hZ : wD Z) (X M O : SS) (r : Int32) (hf : f_X6_nextToDrop X = some (r)) (sz : Nat) : vx_Met l yX6_nextToDrop ws_X6_nextToDrop rm_X6_nextToDrop (va_Pc [.ref (Z.2.2 0 0)] (cP Z (X, M, O) sz)) (cQi Z (X, M, O) (.inl r) sz) (cX Z (X, M, O) (.inl r : Int32 ⊕ String) sz) 0 0 (wA Z sz) := by
  refine vx_ofW (cc := cX6_nextToDrop) (maxL := 3) (ret := (some .int)) (by decide) rfl ?_
  intro p e s m args below meth c s₁ B hml htab hv
  obtain ⟨hargs, hsz, hE, hP, hK⟩ := hv
  have hx := B.exec
  have hb := B.bytes
  have hr := B.returns
  have hts0 := atoms_spec (ws := ws_X6_nextToDrop) B.pre
  have hts : ∀ w ∈ lw_all, w.before args s = true := fun w h => hts0 w (List.mem_cons_of_mem _ h)
  have hown : s.vm.findClass RX6 = some m.cls := findClass_of_methodNamed B.named
  have hlocks := B.notSynchronized
  have hout9 : ∀ (pc9 : Nat), ∀ x ∈ c.exceptionTable.toList, covers x pc9 = false := fun _ x hx9 => (htab x hx9).elim
  subst hsz
  have hS : va_S (wA Z s.heap.size) s.heap s.heap [] := va_S.rf
  have hl := lv_entry ([.ref (Z.2.2 0 0)]) (n := 3) (Nat.le_of_ble_eq_true rfl)
  have hen : entryFrame m args 3 = entryFrame m ([.ref (Z.2.2 0 0)] : List Value).toArray 3 := by rw [hargs]
  rw [hen, lg_entry_eq]
  generalize (lg_sl ([.ref (Z.2.2 0 0)]) ++ List.replicate (3 - (lg_sl ([.ref (Z.2.2 0 0)])).length) Slot.unset).toArray = ls at hl ⊢
  have hl : lv_has ls 3 [(0, .ref (Z.2.2 0 0))] := hl
  have hk := hf
  unfold f_X6_nextToDrop at hk
  refine lv_iconst (v := ((-1) : Int32)) hx hb dX6_nextToDrop_0 (by decide) ?_
  refine lv_istore_n (lv' := [(1, .int ((-1) : Int32)), (0, .ref (Z.2.2 0 0))]) hx hb dX6_nextToDrop_1 rfl hl (by decide) rfl (fun ls hl => ?_)
  refine lv_iconst (v := (0 : Int32)) hx hb dX6_nextToDrop_2 (by decide) ?_
  refine lv_istore_n (lv' := [(2, .int (0 : Int32)), (1, .int ((-1) : Int32)), (0, .ref (Z.2.2 0 0))]) hx hb dX6_nextToDrop_3 rfl hl (by decide) rfl (fun ls hl => ?_)
  obtain ⟨k1, hk1, hk⟩ := gn hk
  have ex1 : ∀ (v2 : Int32) (H : Heap) (locs : List Loc) (ls : Array Slot), k1 v2 = some (r) → wP Z (X, M, O) H → va_S (wA Z s.heap.size) s.heap H locs → lv_has ls 3 [(1, .int v2)] → W p l e (headSpec ws_X6_nextToDrop rm_X6_nextToDrop).room s m args below meth c H locs 0 0 (vx_MQ below (cQi Z (X, M, O) (.inl r) s.heap.size) (cX Z (X, M, O) (.inl r : Int32 ⊕ String) s.heap.size) args s 0 0 (wA Z s.heap.size)) (F0 m 55 ls []) := by
    intro v2 H locs ls hk hP hS hl
    subst hk1
    refine lv_iload_n hx hb dX6_nextToDrop_55 rfl (lv_at hl 0 rfl) ?_
    cases (show some _ = some _ from hk)
    exact we_i hx hb hr hlocks hP rfl hS dX6_nextToDrop_56 (by decide) (by decide)
  have lp1 : ∀ (n : Nat) (v3 : Int32) (v4 : Int32) (H : Heap) (locs : List Loc) (ls : Array Slot), f_X6_nextToDrop_L4 X n v3 v4 k1 = some (r) → wP Z (X, M, O) H → va_S (wA Z s.heap.size) s.heap H locs → lv_has ls 3 [(2, .int v3), (1, .int v4), (0, .ref (Z.2.2 0 0))] → W p l e (headSpec ws_X6_nextToDrop rm_X6_nextToDrop).room s m args below meth c H locs 0 0 (vx_MQ below (cQi Z (X, M, O) (.inl r) s.heap.size) (cX Z (X, M, O) (.inl r : Int32 ⊕ String) s.heap.size) args s 0 0 (wA Z s.heap.size)) (F0 m 4 ls []) := by
    intro n
    induction n with
    | zero =>
      intro v3 v4 H locs ls hk
      rw [f_X6_nextToDrop_L4] at hk
      exact nomatch (show none = some _ from hk)
    | succ n ih =>
      intro v3 v4 H locs ls hk hP hS hl
      rw [f_X6_nextToDrop_L4] at hk
      refine lv_iload_n hx hb dX6_nextToDrop_4 rfl (lv_at hl 0 rfl) ?_
      refine lv_aload_n hx hb dX6_nextToDrop_5 rfl (lv_at hl 2 rfl) ?_
      refine gf_RX6_65 hx hb hts hown hK hP (by decide) dX6_nextToDrop_6 ?_
      refine lv_icmp_ge (tgt := 55) hx hb dX6_nextToDrop_9 (by decide) (fun cz5 => ?_) (fun cz5 => ?_)
      · have hk := it_t cz5 hk
        exact ex1 v4 _ _ _ hk hP hS (lv_sub hl [1] rfl)
      · have hk := it_f cz5 hk
        refine lv_aload_n hx hb dX6_nextToDrop_12 rfl (lv_at hl 2 rfl) ?_
        refine gf_RX6_37 hx hb hts hown hK hP (by decide) dX6_nextToDrop_13 ?_
        refine lv_iload_n hx hb dX6_nextToDrop_16 rfl (lv_at hl 0 rfl) ?_
        obtain ⟨hg6, hk⟩ := gd_s hk
        refine wa_aaload_23 hx hb hK hP (by decide) hg6 dX6_nextToDrop_17 ?_
        refine gf_RX6_252 hx hb hts hown hK hP (vp_lt hg6) dX6_nextToDrop_18 ?_
        refine lv_if_eq (tgt := 49) hx hb dX6_nextToDrop_21 (by decide) (fun cz7 => ?_) (fun cz7 => ?_)
        · have hk := it_t cz7 hk
          refine lv_iinc (v := (v3 + (1 : Int32))) (lv' := [(2, .int (v3 + (1 : Int32))), (1, .int v4), (0, .ref (Z.2.2 0 0))]) hx hb dX6_nextToDrop_49 hl (k := 0) rfl rfl (by decide) rfl (fun ls hl => ?_)
          refine lv_goto (tgt := 4) hx hb dX6_nextToDrop_52 (by decide) ?_
          exact ih (v3 + (1 : Int32)) v4 _ _ _ hk hP hS (lv_sub hl [0, 1, 2] rfl)
        · have hk := it_f cz7 hk
          refine lv_iload_n hx hb dX6_nextToDrop_24 rfl (lv_at hl 1 rfl) ?_
          refine lv_iconst (v := ((-1) : Int32)) hx hb dX6_nextToDrop_25 (by decide) ?_
          refine lv_icmp_eq (tgt := 47) hx hb dX6_nextToDrop_26 (by decide) (fun cz8 => ?_) (fun cz8 => ?_)
          · have hk := it_t cz8 hk
            refine lv_iload_n hx hb dX6_nextToDrop_47 rfl (lv_at hl 0 rfl) ?_
            refine lv_istore_n (lv' := [(1, .int v3), (2, .int v3), (0, .ref (Z.2.2 0 0))]) hx hb dX6_nextToDrop_48 rfl hl (by decide) rfl (fun ls hl => ?_)
            refine lv_iinc (v := (v3 + (1 : Int32))) (lv' := [(2, .int (v3 + (1 : Int32))), (1, .int v3), (0, .ref (Z.2.2 0 0))]) hx hb dX6_nextToDrop_49 hl (k := 1) rfl rfl (by decide) rfl (fun ls hl => ?_)
            refine lv_goto (tgt := 4) hx hb dX6_nextToDrop_52 (by decide) ?_
            exact ih (v3 + (1 : Int32)) v3 _ _ _ hk hP hS (lv_sub hl [0, 1, 2] rfl)
          · have hk := it_f cz8 hk
            refine lv_aload_n hx hb dX6_nextToDrop_29 rfl (lv_at hl 2 rfl) ?_
            refine gf_RX6_37 hx hb hts hown hK hP (by decide) dX6_nextToDrop_30 ?_
            refine lv_iload_n hx hb dX6_nextToDrop_33 rfl (lv_at hl 0 rfl) ?_
            obtain ⟨hg9, hk⟩ := gd_s hk
            refine wa_aaload_23 hx hb hK hP (by decide) hg9 dX6_nextToDrop_34 ?_
            refine lv_aload_n hx hb dX6_nextToDrop_35 rfl (lv_at hl 2 rfl) ?_
            refine gf_RX6_37 hx hb hts hown hK hP (by decide) dX6_nextToDrop_36 ?_
            refine lv_iload_n hx hb dX6_nextToDrop_39 rfl (lv_at hl 1 rfl) ?_
            obtain ⟨hg10, hk⟩ := gd_s hk
            refine wa_aaload_23 hx hb hK hP (by decide) hg10 dX6_nextToDrop_40 ?_
            obtain ⟨v11, hf12, hk⟩ := b0_s hk
            refine wc_iS0 (rest := []) (As := [.ref (Z.2.2 12 (v3).toNatClampNeg), .ref (Z.2.2 12 (v4).toNatClampNeg)]) ⟨hx, hb, hml, hown, hts⟩ (fun sz => k_X6_isDroppedBefore l hfl Z hZ X M O (v3).toNatClampNeg (v4).toNatClampNeg (vp_lt hg9) (vp_lt hg10) v11 hf12 sz) (cw_RX6_441 (args := args) (s := s) hts (Nat.le_of_ble_eq_true rfl) (Nat.le_of_ble_eq_true rfl)) hE hP hK hS  rfl hl.1 rfl (Nat.le_of_ble_eq_true rfl) dX6_nextToDrop_41 ⟨Nat.le_of_ble_eq_true rfl, Nat.le_of_ble_eq_true rfl⟩ (fun H locs hP hS => ?_)
            refine lv_if_eq (tgt := 49) hx hb dX6_nextToDrop_44 (by decide) (fun cz13 => ?_) (fun cz13 => ?_)
            · have hk := it_t cz13 hk
              refine lv_iinc (v := (v3 + (1 : Int32))) (lv' := [(2, .int (v3 + (1 : Int32))), (1, .int v4), (0, .ref (Z.2.2 0 0))]) hx hb dX6_nextToDrop_49 hl (k := 0) rfl rfl (by decide) rfl (fun ls hl => ?_)
              refine lv_goto (tgt := 4) hx hb dX6_nextToDrop_52 (by decide) ?_
              exact ih (v3 + (1 : Int32)) v4 _ _ _ hk hP hS (lv_sub hl [0, 1, 2] rfl)
            · have hk := it_f cz13 hk
              refine lv_iload_n hx hb dX6_nextToDrop_47 rfl (lv_at hl 0 rfl) ?_
              refine lv_istore_n (lv' := [(1, .int v3), (2, .int v3), (0, .ref (Z.2.2 0 0))]) hx hb dX6_nextToDrop_48 rfl hl (by decide) rfl (fun ls hl => ?_)
              refine lv_iinc (v := (v3 + (1 : Int32))) (lv' := [(2, .int (v3 + (1 : Int32))), (1, .int v3), (0, .ref (Z.2.2 0 0))]) hx hb dX6_nextToDrop_49 hl (k := 1) rfl rfl (by decide) rfl (fun ls hl => ?_)
              refine lv_goto (tgt := 4) hx hb dX6_nextToDrop_52 (by decide) ?_
              exact ih (v3 + (1 : Int32)) v3 _ _ _ hk hP hS (lv_sub hl [0, 1, 2] rfl)
  exact lp1 1000 (0 : Int32) ((-1) : Int32) _ _ _ hk hP hS (lv_sub hl [0, 1, 2] rfl)
set_option maxHeartbeats 4000000 in
set_option maxRecDepth 100000 in
theorem k_X6_dropBody (l : Launch) (hfl : l.stackTraces = false) (Z : ZT) (hZ : wD Z) (X M O : SS) (i1 : Nat) (hi1 : i1 < 40) (Xz : SS) (r : Unit) (hf : f_X6_dropBody X i1 = some (Xz, r)) (sz : Nat) : vx_Met l yX6_dropBody ws_X6_dropBody rm_X6_dropBody (va_Pc [.ref (Z.2.2 0 0), .ref (Z.2.2 12 i1)] (cP Z (X, M, O) sz)) (cQv Z (Xz, M, O) (.inl ()) sz) (cX Z (Xz, M, O) (.inl () : Unit ⊕ String) sz) 0 0 (wA Z sz) := by
  refine vx_ofW (cc := cX6_dropBody) (maxL := 4) (ret := none) (by decide) rfl ?_
  intro p e s m args below meth c s₁ B hml htab hv
  obtain ⟨hargs, hsz, hE, hP, hK⟩ := hv
  have hx := B.exec
  have hb := B.bytes
  have hr := B.returns
  have hts0 := atoms_spec (ws := ws_X6_dropBody) B.pre
  have hts : ∀ w ∈ lw_all, w.before args s = true := fun w h => hts0 w (List.mem_cons_of_mem _ h)
  have hown : s.vm.findClass RX6 = some m.cls := findClass_of_methodNamed B.named
  have hlocks := B.notSynchronized
  have hout9 : ∀ (pc9 : Nat), ∀ x ∈ c.exceptionTable.toList, covers x pc9 = false := fun _ x hx9 => (htab x hx9).elim
  subst hsz
  have hS : va_S (wA Z s.heap.size) s.heap s.heap [] := va_S.rf
  have hl := lv_entry ([.ref (Z.2.2 0 0), .ref (Z.2.2 12 i1)]) (n := 4) (Nat.le_of_ble_eq_true rfl)
  have hen : entryFrame m args 4 = entryFrame m ([.ref (Z.2.2 0 0), .ref (Z.2.2 12 i1)] : List Value).toArray 4 := by rw [hargs]
  rw [hen, lg_entry_eq]
  generalize (lg_sl ([.ref (Z.2.2 0 0), .ref (Z.2.2 12 i1)]) ++ List.replicate (4 - (lg_sl ([.ref (Z.2.2 0 0), .ref (Z.2.2 12 i1)])).length) Slot.unset).toArray = ls at hl ⊢
  have hl : lv_has ls 4 [(0, .ref (Z.2.2 0 0)), (1, .ref (Z.2.2 12 i1))] := hl
  have hk := hf
  unfold f_X6_dropBody at hk
  refine lv_aload_n hx hb dX6_dropBody_0 rfl (lv_at hl 0 rfl) ?_
  refine gf_RX6_25 hx hb hts hown hK hP (by decide) dX6_dropBody_1 ?_
  refine lv_aload_n hx hb dX6_dropBody_4 rfl (lv_at hl 1 rfl) ?_
  refine gf_RX6_226 hx hb hts hown hK hP hi1 dX6_dropBody_5 ?_
  obtain ⟨hg1, hk⟩ := gd_s hk
  refine wa_aaload_21 hx hb hK hP (by decide) hg1 dX6_dropBody_8 ?_
  refine lv_astore_n (lv' := [(2, .ref (Z.2.2 7 ((X.1 12 i1 8)).toNatClampNeg)), (0, .ref (Z.2.2 0 0)), (1, .ref (Z.2.2 12 i1))]) hx hb dX6_dropBody_9 rfl hl (by decide) rfl (fun ls hl => ?_)
  refine lv_iconst (v := (0 : Int32)) hx hb dX6_dropBody_10 (by decide) ?_
  refine lv_istore_n (lv' := [(3, .int (0 : Int32)), (2, .ref (Z.2.2 7 ((X.1 12 i1 8)).toNatClampNeg)), (0, .ref (Z.2.2 0 0)), (1, .ref (Z.2.2 12 i1))]) hx hb dX6_dropBody_11 rfl hl (by decide) rfl (fun ls hl => ?_)
  obtain ⟨k2, hk2, hk⟩ := gn hk
  have ex2 : ∀ (X3 : SS) (H : Heap) (locs : List Loc) (ls : Array Slot), k2 X3 = some (Xz, r) → wP Z (X3, M, O) H → va_S (wA Z s.heap.size) s.heap H locs → lv_has ls 4 [(2, .ref (Z.2.2 7 ((X.1 12 i1 8)).toNatClampNeg)), (0, .ref (Z.2.2 0 0)), (1, .ref (Z.2.2 12 i1))] → W p l e (headSpec ws_X6_dropBody rm_X6_dropBody).room s m args below meth c H locs 0 0 (vx_MQ below (cQv Z (Xz, M, O) (.inl ()) s.heap.size) (cX Z (Xz, M, O) (.inl () : Unit ⊕ String) s.heap.size) args s 0 0 (wA Z s.heap.size)) (F0 m 57 ls []) := by
    intro X3 H locs ls hk hP hS hl
    subst hk2
    refine lv_aload_n hx hb dX6_dropBody_57 rfl (lv_at hl 2 rfl) ?_
    refine lv_aload_n hx hb dX6_dropBody_58 rfl (lv_at hl 0 rfl) ?_
    refine gf_RX6_146 hx hb hts hown hK hP (vp_lt hg1) dX6_dropBody_59 ?_
    obtain ⟨X6, eX6, hk⟩ := lq_s hk
    refine pf_RX6_432 hx hb hts hown hZ hK hP hS hi1 dX6_dropBody_62 (fun H locs hP hS => ?_)
    rw [← eX6] at hP
    refine lv_aload_n hx hb dX6_dropBody_65 rfl (lv_at hl 2 rfl) ?_
    refine lv_aload_n hx hb dX6_dropBody_66 rfl (lv_at hl 1 rfl) ?_
    refine gf_RX6_74 hx hb hts hown hK hP (by decide) dX6_dropBody_67 ?_
    obtain ⟨X7, eX7, hk⟩ := lq_s hk
    refine pf_RX6_444 hx hb hts hown hZ hK hP hS hi1 dX6_dropBody_70 (fun H locs hP hS => ?_)
    rw [← eX7] at hP
    refine lv_aload_n hx hb dX6_dropBody_73 rfl (lv_at hl 2 rfl) ?_
    refine lv_iconst (v := (0 : Int32)) hx hb dX6_dropBody_74 (by decide) ?_
    obtain ⟨X8, eX8, hk⟩ := lq_s hk
    refine pf_RX6_252 hx hb hts hown hZ hK hP hS hi1 (by unfold okz; decide) dX6_dropBody_75 (fun H locs hP hS => ?_)
    rw [← eX8] at hP
    refine lv_aload_n hx hb dX6_dropBody_78 rfl (lv_at hl 2 rfl) ?_
    refine gf_RX6_255 hx hb hts hown hK hP hi1 dX6_dropBody_79 ?_
    obtain ⟨X10, v9, hf11, hk⟩ := b1_s hk
    refine wc_vV0 (rest := []) (As := []) ⟨hx, hb, hml, hown, hts⟩ (fun sz => k_X3_erase l hfl Z hZ X8 M O (i1 + 1) (lt_B hi1) X10 v9 hf11 sz) (cw_RX6_117 (args := args) (s := s) hts (Nat.le_of_ble_eq_true rfl) (Nat.le_of_ble_eq_true rfl)) hE hP hK hS (rv_1 hK hP (lt_B hi1)) rfl hl.1 rfl (Nat.le_of_ble_eq_true rfl) dX6_dropBody_82 ⟨Nat.le_of_ble_eq_true rfl, Nat.le_of_ble_eq_true rfl⟩ (fun H locs hP hS => ?_)
    refine lv_aload_n hx hb dX6_dropBody_85 rfl (lv_at hl 2 rfl) ?_
    refine lv_aload_n hx hb dX6_dropBody_86 rfl (lv_at hl 2 rfl) ?_
    refine gf_RX6_238 hx hb hts hown hK hP hi1 dX6_dropBody_87 ?_
    refine lv_bipush (v := (102 : Int32)) hx hb dX6_dropBody_90 (by decide) ?_
    refine lv_icmp_ne (tgt := 100) hx hb dX6_dropBody_92 (by decide) (fun cz12 => ?_) (fun cz12 => ?_)
    · have hk := it_f cz12 hk
      refine lv_bipush (v := (112 : Int32)) hx hb dX6_dropBody_100 (by decide) ?_
      obtain ⟨X13, eX13, hk⟩ := lq_s hk
      refine pf_RX6_238 hx hb hts hown hZ hK hP hS hi1 (by unfold okc; decide) dX6_dropBody_102 (fun H locs hP hS => ?_)
      rw [← eX13] at hP
      cases (show some _ = some _ from hk)
      exact we_v hx hb hr hlocks hP rfl hS dX6_dropBody_105 (by decide) (by decide)
    · have hk := it_t cz12 hk
      refine lv_bipush (v := (98 : Int32)) hx hb dX6_dropBody_95 (by decide) ?_
      refine lv_goto (tgt := 102) hx hb dX6_dropBody_97 (by decide) ?_
      obtain ⟨X14, eX14, hk⟩ := lq_s hk
      refine pf_RX6_238 hx hb hts hown hZ hK hP hS hi1 (by unfold okc; decide) dX6_dropBody_102 (fun H locs hP hS => ?_)
      rw [← eX14] at hP
      cases (show some _ = some _ from hk)
      exact we_v hx hb hr hlocks hP rfl hS dX6_dropBody_105 (by decide) (by decide)
  have lp2 : ∀ (n : Nat) (v4 : Int32) (X5 : SS) (H : Heap) (locs : List Loc) (ls : Array Slot), f_X6_dropBody_L12 X i1 n v4 X5 k2 = some (Xz, r) → wP Z (X5, M, O) H → va_S (wA Z s.heap.size) s.heap H locs → lv_has ls 4 [(3, .int v4), (2, .ref (Z.2.2 7 ((X.1 12 i1 8)).toNatClampNeg)), (0, .ref (Z.2.2 0 0)), (1, .ref (Z.2.2 12 i1))] → W p l e (headSpec ws_X6_dropBody rm_X6_dropBody).room s m args below meth c H locs 0 0 (vx_MQ below (cQv Z (Xz, M, O) (.inl ()) s.heap.size) (cX Z (Xz, M, O) (.inl () : Unit ⊕ String) s.heap.size) args s 0 0 (wA Z s.heap.size)) (F0 m 12 ls []) := by
    intro n
    induction n with
    | zero =>
      intro v4 X5 H locs ls hk
      rw [f_X6_dropBody_L12] at hk
      exact nomatch (show none = some _ from hk)
    | succ n ih =>
      intro v4 X5 H locs ls hk hP hS hl
      rw [f_X6_dropBody_L12] at hk
      refine lv_iload_n hx hb dX6_dropBody_12 rfl (lv_at hl 0 rfl) ?_
      refine lv_aload_n hx hb dX6_dropBody_13 rfl (lv_at hl 1 rfl) ?_
      refine gf_RX6_146 hx hb hts hown hK hP (vp_lt hg1) dX6_dropBody_14 ?_
      refine lv_icmp_ge (tgt := 57) hx hb dX6_dropBody_17 (by decide) (fun cz15 => ?_) (fun cz15 => ?_)
      · have hk := it_t cz15 hk
        exact ex2 X5 _ _ _ hk hP hS (lv_sub hl [1, 2, 3] rfl)
      · have hk := it_f cz15 hk
        refine lv_aload_n hx hb dX6_dropBody_20 rfl (lv_at hl 2 rfl) ?_
        refine gf_RX6_55 hx hb hts hown hK hP (by decide) dX6_dropBody_21 ?_
        refine lv_aload_n hx hb dX6_dropBody_24 rfl (lv_at hl 3 rfl) ?_
        refine gf_RX6_255 hx hb hts hown hK hP hi1 dX6_dropBody_25 ?_
        refine lv_aload_n hx hb dX6_dropBody_28 rfl (lv_at hl 1 rfl) ?_
        refine gf_RX6_151 hx hb hts hown hK hP (vp_lt hg1) dX6_dropBody_29 ?_
        refine lv_iload_n hx hb dX6_dropBody_32 rfl (lv_at hl 0 rfl) ?_
        obtain ⟨hg16, hk⟩ := gd_s hk
        refine wa_aaload_8 hx hb hK hP (vp_lt hg1) hg16 dX6_dropBody_33 ?_
        obtain ⟨X18, v17, hf19, hk⟩ := b1_s hk
        refine wc_iV0 (rest := []) (As := [.ref (Z.2.2 1 (i1 + 1)), .ref (Z.2.2 4 (5 * ((X.1 12 i1 8)).toNatClampNeg + (v4).toNatClampNeg))]) ⟨hx, hb, hml, hown, hts⟩ (fun sz => k_X1_execute l hfl Z hZ X5 M O 1 (i1 + 1) (5 * ((X.1 12 i1 8)).toNatClampNeg + (v4).toNatClampNeg) (by decide) (lt_B hi1) (lt_T (vp_lt hg1) (vp_lt hg16)) X18 v17 hf19 sz) (cw_RX6_172 (args := args) (s := s) hts (Nat.le_of_ble_eq_true rfl) (Nat.le_of_ble_eq_true rfl)) hE hP hK hS (rv_16 hK hP (by decide)) rfl hl.1 rfl (Nat.le_of_ble_eq_true rfl) dX6_dropBody_34 ⟨Nat.le_of_ble_eq_true rfl, Nat.le_of_ble_eq_true rfl⟩ (fun H locs hP hS => ?_)
        refine lv_pop hx hb dX6_dropBody_37 rfl ?_
        refine lv_aload_n hx hb dX6_dropBody_38 rfl (lv_at hl 3 rfl) ?_
        refine gf_RX6_435 hx hb hts hown hK hP hi1 dX6_dropBody_39 ?_
        refine lv_iload_n hx hb dX6_dropBody_42 rfl (lv_at hl 0 rfl) ?_
        refine lv_aload_n hx hb dX6_dropBody_43 rfl (lv_at hl 2 rfl) ?_
        refine gf_RX6_55 hx hb hts hown hK hP (by decide) dX6_dropBody_44 ?_
        refine gf_RX6_180 hx hb hts hown hK hP (by decide) dX6_dropBody_47 ?_
        obtain ⟨hg20, hk⟩ := gd_s hk
        obtain ⟨X21, eX21, hk⟩ := lq_s hk
        refine wa_iastore_13 hx hb hZ hK hP hS hi1 hg20 dX6_dropBody_50 (fun H locs hP hS => ?_)
        rw [← eX21] at hP
        refine lv_iinc (v := (v4 + (1 : Int32))) (lv' := [(3, .int (v4 + (1 : Int32))), (2, .ref (Z.2.2 7 ((X.1 12 i1 8)).toNatClampNeg)), (0, .ref (Z.2.2 0 0)), (1, .ref (Z.2.2 12 i1))]) hx hb dX6_dropBody_51 hl (k := 0) rfl rfl (by decide) rfl (fun ls hl => ?_)
        refine lv_goto (tgt := 12) hx hb dX6_dropBody_54 (by decide) ?_
        exact ih (v4 + (1 : Int32)) X21 _ _ _ hk hP hS (lv_sub hl [0, 1, 2, 3] rfl)
  exact lp2 1000 (0 : Int32) X _ _ _ hk hP hS (lv_sub hl [0, 1, 2, 3] rfl)