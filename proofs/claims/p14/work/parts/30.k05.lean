set_option maxHeartbeats 4000000 in
set_option maxRecDepth 100000 in
theorem k_X6_answer (l : Launch) (hfl : l.stackTraces = false) (Z : ZT) (hZ : wD Z) (X M O : SS) (p0 : Int32) (p1 : Int32) (Xz : SS) (o : Int32 ⊕ String) (hf : f_X6_answer X p0 p1 = some (Xz, o)) (sz : Nat) : vx_Met l yX6_answer ws_X6_answer rm_X6_answer (va_Pc [.ref (Z.2.2 0 0), .int p0, .int p1] (cP Z (X, M, O) sz)) (cQi Z (Xz, M, O) o sz) (cX Z (Xz, M, O) o sz) 3 18 (wA Z sz) := by
  refine vx_ofW (cc := cX6_answer) (maxL := 5) (ret := (some .char)) (by decide) rfl ?_
  intro p e s m args below meth c s₁ B hml htab hv
  obtain ⟨hargs, hsz, hE, hP, hK⟩ := hv
  have hx := B.exec
  have hb := B.bytes
  have hr := B.returns
  have hts0 := atoms_spec (ws := ws_X6_answer) B.pre
  have hts : ∀ w ∈ lw_all, w.before args s = true := fun w h => hts0 w (List.mem_cons_of_mem _ h)
  have hown : s.vm.findClass RX6 = some m.cls := findClass_of_methodNamed B.named
  have hlocks := B.notSynchronized
  have hout9 : ∀ (pc9 : Nat), ∀ x ∈ c.exceptionTable.toList, covers x pc9 = false := fun _ x hx9 => (htab x hx9).elim
  subst hsz
  have hS : va_S (wA Z s.heap.size) s.heap s.heap [] := va_S.rf
  have hl := lv_entry ([.ref (Z.2.2 0 0), .int p0, .int p1]) (n := 5) (Nat.le_of_ble_eq_true rfl)
  have hen : entryFrame m args 5 = entryFrame m ([.ref (Z.2.2 0 0), .int p0, .int p1] : List Value).toArray 5 := by rw [hargs]
  rw [hen, lg_entry_eq]
  generalize (lg_sl ([.ref (Z.2.2 0 0), .int p0, .int p1]) ++ List.replicate (5 - (lg_sl ([.ref (Z.2.2 0 0), .int p0, .int p1])).length) Slot.unset).toArray = ls at hl ⊢
  have hl : lv_has ls 5 [(0, .ref (Z.2.2 0 0)), (1, .int p0), (2, .int p1)] := hl
  have hk := hf
  unfold f_X6_answer at hk
  refine lv_aload_n hx hb dX6_answer_0 rfl (lv_at hl 0 rfl) ?_
  refine lv_iload_n hx hb dX6_answer_1 rfl (lv_at hl 1 rfl) ?_
  obtain ⟨o3, hf2, hn5, he6⟩ := e0_s hk
  refine wc_qV (kd := 9) (rest := []) (As := [.int p0]) ⟨hx, hb, hml, hown, hts⟩ (fun sz => k_X6_memberAt l hfl Z hZ X M O p0 o3 hf2 sz) (cw_RX6_199 (args := args) (s := s) hts (Nat.le_of_ble_eq_true rfl) (Nat.le_of_ble_eq_true rfl)) hE hP hK hS (rv_0 hK hP (by decide)) rfl hl.1 rfl (Nat.le_of_ble_eq_true rfl) dX6_answer_2 ⟨Nat.le_of_ble_eq_true rfl, Nat.le_of_ble_eq_true rfl⟩ (fun E4 ce9 q9 H locs hoE hP hS hc9 hv9 hcl9 => ?_) (fun i1 hi1 H locs ho hP hS => ?_)
  · have hk := he6 _ hoE
    cases (show some _ = some _ from hk)
    exact vx_out (hout9 _) hlocks hc9 hv9 hcl9 (fun t8 ht8 hA8 => ⟨(), trivial, ⟨rfl, wP_eq ht8 hP⟩, hS.F ht8⟩) hS.2.2 (by decide) (by decide)
  have hk := hn5 _ ho
  refine lv_astore_n (lv' := [(3, .ref (Z.2.2 9 i1)), (0, .ref (Z.2.2 0 0)), (1, .int p0), (2, .int p1)]) hx hb dX6_answer_5 rfl hl (by decide) rfl (fun ls hl => ?_)
  refine lv_aload_n hx hb dX6_answer_6 rfl (lv_at hl 1 rfl) ?_
  refine lv_iload_n hx hb dX6_answer_7 rfl (lv_at hl 3 rfl) ?_
  obtain ⟨o9, hf8, hn11, he12⟩ := e0_s hk
  refine wc_qV (kd := 12) (rest := []) (As := [.int p1]) ⟨hx, hb, hml, hown, hts⟩ (fun sz => k_X6_workAt l hfl Z hZ X M O p1 o9 hf8 sz) (cw_RX6_219 (args := args) (s := s) hts (Nat.le_of_ble_eq_true rfl) (Nat.le_of_ble_eq_true rfl)) hE hP hK hS (rv_0 hK hP (by decide)) rfl hl.1 rfl (Nat.le_of_ble_eq_true rfl) dX6_answer_8 ⟨Nat.le_of_ble_eq_true rfl, Nat.le_of_ble_eq_true rfl⟩ (fun E10 ce9 q9 H locs hoE hP hS hc9 hv9 hcl9 => ?_) (fun i7 hi7 H locs ho hP hS => ?_)
  · have hk := he12 _ hoE
    cases (show some _ = some _ from hk)
    exact vx_out (hout9 _) hlocks hc9 hv9 hcl9 (fun t8 ht8 hA8 => ⟨(), trivial, ⟨rfl, wP_eq ht8 hP⟩, hS.F ht8⟩) hS.2.2 (by decide) (by decide)
  have hk := hn11 _ ho
  refine lv_astore (lv' := [(4, .ref (Z.2.2 12 i7)), (3, .ref (Z.2.2 9 i1)), (0, .ref (Z.2.2 0 0)), (1, .int p0), (2, .int p1)]) hx hb dX6_answer_11 hl (by decide) rfl (fun ls hl => ?_)
  refine lv_aload hx hb dX6_answer_13 (lv_at hl 0 rfl) ?_
  refine gf_RX6_238 hx hb hts hown hK hP hi7 dX6_answer_15 ?_
  refine lv_bipush (v := (99 : Int32)) hx hb dX6_answer_18 (by decide) ?_
  refine lv_icmp_ne (tgt := 33) hx hb dX6_answer_20 (by decide) (fun cz13 => ?_) (fun cz13 => ?_)
  · have hk := it_f cz13 hk
    cases (show some _ = some _ from hk)
    obtain ⟨sa, hstr⟩ := EV.str hE (own := RX6) (k := 365) (tx := "the work is not in c, or what is typed is not whole") (by decide +kernel)
    exact vx_throwSW (mc := 3) (ms := 18) (names := ["java/lang/RuntimeException", "java/lang/Exception"]) hx hb hfl hown (by decide +kernel) (by decide +kernel) (hts _ q838) (hts _ q98) hstr (th_171 hE hts) (by decide +kernel) (EV.zu hE) (EV.zn hE) hS (hl.1.trans hml.symm) dX6_answer_33 dX6_answer_36 dX6_answer_37 dX6_answer_40 dX6_answer_43 (hout9 _) (Nat.le_of_ble_eq_true rfl) (Nat.le_of_ble_eq_true rfl) (Nat.le_of_ble_eq_true rfl) (Nat.le_of_ble_eq_true rfl) hlocks (fun t9 _ h8 h9 => ⟨(), trivial, ⟨rfl, wP_kept hP h9⟩, fF hS h8 h9⟩) hS.2.2 (by decide) (by decide)
  · have hk := it_t cz13 hk
    refine lv_aload_n hx hb dX6_answer_23 rfl (lv_at hl 2 rfl) ?_
    refine gf_RX6_10 hx hb hts hown hK hP (by decide) dX6_answer_24 ?_
    obtain ⟨v14, hf15, hk⟩ := b0_s hk
    refine wc_iV0 (rest := []) (As := []) ⟨hx, hb, hml, hown, hts⟩ (fun sz => k_X3_isWhole l hfl Z hZ X M O 0 (by decide) v14 hf15 sz) (cw_RX6_163 (args := args) (s := s) hts (Nat.le_of_ble_eq_true rfl) (Nat.le_of_ble_eq_true rfl)) hE hP hK hS (rv_1 hK hP (by decide)) rfl hl.1 rfl (Nat.le_of_ble_eq_true rfl) dX6_answer_27 ⟨Nat.le_of_ble_eq_true rfl, Nat.le_of_ble_eq_true rfl⟩ (fun H locs hP hS => ?_)
    refine lv_if_ne (tgt := 44) hx hb dX6_answer_30 (by decide) (fun cz16 => ?_) (fun cz16 => ?_)
    · have hk := it_f cz16 hk
      refine lv_aload_n hx hb dX6_answer_44 rfl (lv_at hl 2 rfl) ?_
      refine lv_aload_n hx hb dX6_answer_45 rfl (lv_at hl 2 rfl) ?_
      refine gf_RX6_10 hx hb hts hown hK hP (by decide) dX6_answer_46 ?_
      refine lv_aload hx hb dX6_answer_49 (lv_at hl 0 rfl) ?_
      obtain ⟨X18, v17, hf19, hk⟩ := b1_s hk
      refine wc_iV0 (rest := []) (As := [.ref (Z.2.2 1 0), .ref (Z.2.2 12 i7)]) ⟨hx, hb, hml, hown, hts⟩ (fun sz => k_X6_isTheBody l hfl Z hZ X M O 0 i7 (by decide) hi7 X18 v17 hf19 sz) (cw_RX6_367 (args := args) (s := s) hts (Nat.le_of_ble_eq_true rfl) (Nat.le_of_ble_eq_true rfl)) hE hP hK hS (rv_0 hK hP (by decide)) rfl hl.1 rfl (Nat.le_of_ble_eq_true rfl) dX6_answer_51 ⟨Nat.le_of_ble_eq_true rfl, Nat.le_of_ble_eq_true rfl⟩ (fun H locs hP hS => ?_)
      refine lv_if_ne (tgt := 60) hx hb dX6_answer_54 (by decide) (fun cz20 => ?_) (fun cz20 => ?_)
      · have hk := it_f cz20 hk
        refine lv_aload_n hx hb dX6_answer_60 rfl (lv_at hl 2 rfl) ?_
        refine lv_iload_n hx hb dX6_answer_61 rfl (lv_at hl 4 rfl) ?_
        refine lv_aload_n hx hb dX6_answer_62 rfl (lv_at hl 2 rfl) ?_
        refine gf_RX6_10 hx hb hts hown hK hP (by decide) dX6_answer_63 ?_
        refine lv_aload_n hx hb dX6_answer_66 rfl (lv_at hl 1 rfl) ?_
        obtain ⟨X22, v21, hf23, hk⟩ := b1_s hk
        refine wc_iV0 (rest := []) (As := [.int p1, .ref (Z.2.2 1 0), .ref (Z.2.2 9 i1)]) ⟨hx, hb, hml, hown, hts⟩ (fun sz => k_X6_closeByBody l hfl Z hZ X18 M O p1 0 i1 (by decide) hi1 X22 v21 hf23 sz) (cw_RX6_361 (args := args) (s := s) hts (Nat.le_of_ble_eq_true rfl) (Nat.le_of_ble_eq_true rfl)) hE hP hK hS (rv_0 hK hP (by decide)) rfl hl.1 rfl (Nat.le_of_ble_eq_true rfl) dX6_answer_67 ⟨Nat.le_of_ble_eq_true rfl, Nat.le_of_ble_eq_true rfl⟩ (fun H locs hP hS => ?_)
        obtain ⟨hg24, hk⟩ := gd_s hk
        cases (show some _ = some _ from hk)
        exact we_z hx hb hr hlocks hg24.1 hP rfl hS dX6_answer_70 (by decide) (by decide)
      · have hk := it_t cz20 hk
        refine lv_bipush (v := (45 : Int32)) hx hb dX6_answer_57 (by decide) ?_
        cases (show some _ = some _ from hk)
        exact we_z hx hb hr hlocks (show okc (45 : Int32) by unfold okc; decide).1 hP rfl hS dX6_answer_59 (by decide) (by decide)
    · have hk := it_t cz16 hk
      cases (show some _ = some _ from hk)
      obtain ⟨sa, hstr⟩ := EV.str hE (own := RX6) (k := 365) (tx := "the work is not in c, or what is typed is not whole") (by decide +kernel)
      exact vx_throwSW (mc := 3) (ms := 18) (names := ["java/lang/RuntimeException", "java/lang/Exception"]) hx hb hfl hown (by decide +kernel) (by decide +kernel) (hts _ q838) (hts _ q98) hstr (th_171 hE hts) (by decide +kernel) (EV.zu hE) (EV.zn hE) hS (hl.1.trans hml.symm) dX6_answer_33 dX6_answer_36 dX6_answer_37 dX6_answer_40 dX6_answer_43 (hout9 _) (Nat.le_of_ble_eq_true rfl) (Nat.le_of_ble_eq_true rfl) (Nat.le_of_ble_eq_true rfl) (Nat.le_of_ble_eq_true rfl) hlocks (fun t9 _ h8 h9 => ⟨(), trivial, ⟨rfl, wP_kept hP h9⟩, fF hS h8 h9⟩) hS.2.2 (by decide) (by decide)
set_option maxHeartbeats 4000000 in
set_option maxRecDepth 100000 in
theorem k_X6_open (l : Launch) (hfl : l.stackTraces = false) (Z : ZT) (hZ : wD Z) (X M O : SS) (p0 : Int32) (o : Int32 ⊕ String) (hf : f_X6_open X p0 = some (o)) (sz : Nat) : vx_Met l yX6_open ws_X6_open rm_X6_open (va_Pc [.ref (Z.2.2 0 0), .int p0] (cP Z (X, M, O) sz)) (cQi Z (X, M, O) o sz) (cX Z (X, M, O) o sz) 1 6 (wA Z sz) := by
  refine vx_ofW (cc := cX6_open) (maxL := 2) (ret := (some .int)) (by decide) rfl ?_
  intro p e s m args below meth c s₁ B hml htab hv
  obtain ⟨hargs, hsz, hE, hP, hK⟩ := hv
  have hx := B.exec
  have hb := B.bytes
  have hr := B.returns
  have hts0 := atoms_spec (ws := ws_X6_open) B.pre
  have hts : ∀ w ∈ lw_all, w.before args s = true := fun w h => hts0 w (List.mem_cons_of_mem _ h)
  have hown : s.vm.findClass RX6 = some m.cls := findClass_of_methodNamed B.named
  have hlocks := B.notSynchronized
  have hout9 : ∀ (pc9 : Nat), ∀ x ∈ c.exceptionTable.toList, covers x pc9 = false := fun _ x hx9 => (htab x hx9).elim
  subst hsz
  have hS : va_S (wA Z s.heap.size) s.heap s.heap [] := va_S.rf
  have hl := lv_entry ([.ref (Z.2.2 0 0), .int p0]) (n := 2) (Nat.le_of_ble_eq_true rfl)
  have hen : entryFrame m args 2 = entryFrame m ([.ref (Z.2.2 0 0), .int p0] : List Value).toArray 2 := by rw [hargs]
  rw [hen, lg_entry_eq]
  generalize (lg_sl ([.ref (Z.2.2 0 0), .int p0]) ++ List.replicate (2 - (lg_sl ([.ref (Z.2.2 0 0), .int p0])).length) Slot.unset).toArray = ls at hl ⊢
  have hl : lv_has ls 2 [(0, .ref (Z.2.2 0 0)), (1, .int p0)] := hl
  have hk := hf
  unfold f_X6_open at hk
  refine lv_iload_n hx hb dX6_open_0 rfl (lv_at hl 1 rfl) ?_
  refine lv_if_lt (tgt := 12) hx hb dX6_open_1 (by decide) (fun cz1 => ?_) (fun cz1 => ?_)
  · have hk := it_t cz1 hk
    cases (show some _ = some _ from hk)
    obtain ⟨sa, hstr⟩ := EV.str hE (own := RX6) (k := 371) (tx := "no such challenge") (by decide +kernel)
    exact ng_throwSW (mc := 1) (ms := 6) (Y1 := "java/lang/RuntimeException") (r9 := ["java/lang/Exception"]) hx hb hfl hown (by decide +kernel) (by decide +kernel) (by decide +kernel) (hts _ q866) (hts _ q99) hstr (th_190 hE hts) (by decide +kernel) (EV.zu hE) (EV.zn hE) hS (hl.1.trans hml.symm) dX6_open_12 dX6_open_15 dX6_open_16 dX6_open_19 dX6_open_22 (hout9 _) (Nat.le_of_ble_eq_true rfl) (Nat.le_of_ble_eq_true rfl) (Nat.le_of_ble_eq_true rfl) (Nat.le_of_ble_eq_true rfl) hlocks (fun t9 _ h8 h9 => ⟨(), trivial, ⟨rfl, wP_kept hP h9⟩, fF hS h8 h9⟩) hS.2.2 (by decide) (by decide)
  · have hk := it_f cz1 hk
    refine lv_iload_n hx hb dX6_open_4 rfl (lv_at hl 1 rfl) ?_
    refine lv_aload_n hx hb dX6_open_5 rfl (lv_at hl 0 rfl) ?_
    refine gf_RX6_68 hx hb hts hown hK hP (by decide) dX6_open_6 ?_
    refine lv_icmp_lt (tgt := 23) hx hb dX6_open_9 (by decide) (fun cz2 => ?_) (fun cz2 => ?_)
    · have hk := it_t cz2 hk
      refine lv_aload_n hx hb dX6_open_23 rfl (lv_at hl 0 rfl) ?_
      refine gf_RX6_41 hx hb hts hown hK hP (by decide) dX6_open_24 ?_
      refine lv_iload_n hx hb dX6_open_27 rfl (lv_at hl 1 rfl) ?_
      obtain ⟨hg3, hk⟩ := gd_s hk
      refine wa_iaload_24 hx hb hK hP (by decide) hg3 dX6_open_28 ?_
      cases (show some _ = some _ from hk)
      exact we_i hx hb hr hlocks hP rfl hS dX6_open_29 (by decide) (by decide)
    · have hk := it_f cz2 hk
      cases (show some _ = some _ from hk)
      obtain ⟨sa, hstr⟩ := EV.str hE (own := RX6) (k := 371) (tx := "no such challenge") (by decide +kernel)
      exact ng_throwSW (mc := 1) (ms := 6) (Y1 := "java/lang/RuntimeException") (r9 := ["java/lang/Exception"]) hx hb hfl hown (by decide +kernel) (by decide +kernel) (by decide +kernel) (hts _ q866) (hts _ q99) hstr (th_190 hE hts) (by decide +kernel) (EV.zu hE) (EV.zn hE) hS (hl.1.trans hml.symm) dX6_open_12 dX6_open_15 dX6_open_16 dX6_open_19 dX6_open_22 (hout9 _) (Nat.le_of_ble_eq_true rfl) (Nat.le_of_ble_eq_true rfl) (Nat.le_of_ble_eq_true rfl) (Nat.le_of_ble_eq_true rfl) hlocks (fun t9 _ h8 h9 => ⟨(), trivial, ⟨rfl, wP_kept hP h9⟩, fF hS h8 h9⟩) hS.2.2 (by decide) (by decide)
set_option maxHeartbeats 4000000 in
set_option maxRecDepth 100000 in
theorem k_X6_left (l : Launch) (hfl : l.stackTraces = false) (Z : ZT) (hZ : wD Z) (X M O : SS) (p0 : Int32) (o : Int32 ⊕ String) (hf : f_X6_left X p0 = some (o)) (sz : Nat) : vx_Met l yX6_left ws_X6_left rm_X6_left (va_Pc [.ref (Z.2.2 0 0), .int p0] (cP Z (X, M, O) sz)) (cQi Z (X, M, O) o sz) (cX Z (X, M, O) o sz) 2 12 (wA Z sz) := by
  refine vx_ofW (cc := cX6_left) (maxL := 3) (ret := (some .int)) (by decide) rfl ?_
  intro p e s m args below meth c s₁ B hml htab hv
  obtain ⟨hargs, hsz, hE, hP, hK⟩ := hv
  have hx := B.exec
  have hb := B.bytes
  have hr := B.returns
  have hts0 := atoms_spec (ws := ws_X6_left) B.pre
  have hts : ∀ w ∈ lw_all, w.before args s = true := fun w h => hts0 w (List.mem_cons_of_mem _ h)
  have hown : s.vm.findClass RX6 = some m.cls := findClass_of_methodNamed B.named
  have hlocks := B.notSynchronized
  have hout9 : ∀ (pc9 : Nat), ∀ x ∈ c.exceptionTable.toList, covers x pc9 = false := fun _ x hx9 => (htab x hx9).elim
  subst hsz
  have hS : va_S (wA Z s.heap.size) s.heap s.heap [] := va_S.rf
  have hl := lv_entry ([.ref (Z.2.2 0 0), .int p0]) (n := 3) (Nat.le_of_ble_eq_true rfl)
  have hen : entryFrame m args 3 = entryFrame m ([.ref (Z.2.2 0 0), .int p0] : List Value).toArray 3 := by rw [hargs]
  rw [hen, lg_entry_eq]
  generalize (lg_sl ([.ref (Z.2.2 0 0), .int p0]) ++ List.replicate (3 - (lg_sl ([.ref (Z.2.2 0 0), .int p0])).length) Slot.unset).toArray = ls at hl ⊢
  have hl : lv_has ls 3 [(0, .ref (Z.2.2 0 0)), (1, .int p0)] := hl
  have hk := hf
  unfold f_X6_left at hk
  refine lv_aload_n hx hb dX6_left_0 rfl (lv_at hl 0 rfl) ?_
  refine lv_iload_n hx hb dX6_left_1 rfl (lv_at hl 1 rfl) ?_
  obtain ⟨o3, hf2, hn5, he6⟩ := e0_s hk
  refine wc_qV (kd := 12) (rest := []) (As := [.int p0]) ⟨hx, hb, hml, hown, hts⟩ (fun sz => k_X6_workAt l hfl Z hZ X M O p0 o3 hf2 sz) (cw_RX6_219 (args := args) (s := s) hts (Nat.le_of_ble_eq_true rfl) (Nat.le_of_ble_eq_true rfl)) hE hP hK hS (rv_0 hK hP (by decide)) rfl hl.1 rfl (Nat.le_of_ble_eq_true rfl) dX6_left_2 ⟨Nat.le_of_ble_eq_true rfl, Nat.le_of_ble_eq_true rfl⟩ (fun E4 ce9 q9 H locs hoE hP hS hc9 hv9 hcl9 => ?_) (fun i1 hi1 H locs ho hP hS => ?_)
  · have hk := he6 _ hoE
    cases (show some _ = some _ from hk)
    exact vx_out (hout9 _) hlocks hc9 hv9 hcl9 (fun t8 ht8 hA8 => ⟨(), trivial, ⟨rfl, wP_eq ht8 hP⟩, hS.F ht8⟩) hS.2.2 (by decide) (by decide)
  have hk := hn5 _ ho
  refine lv_astore_n (lv' := [(2, .ref (Z.2.2 12 i1)), (0, .ref (Z.2.2 0 0)), (1, .int p0)]) hx hb dX6_left_5 rfl hl (by decide) rfl (fun ls hl => ?_)
  refine lv_aload_n hx hb dX6_left_6 rfl (lv_at hl 0 rfl) ?_
  refine gf_RX6_238 hx hb hts hown hK hP hi1 dX6_left_7 ?_
  refine lv_bipush (v := (99 : Int32)) hx hb dX6_left_10 (by decide) ?_
  refine lv_icmp_eq (tgt := 26) hx hb dX6_left_12 (by decide) (fun cz7 => ?_) (fun cz7 => ?_)
  · have hk := it_t cz7 hk
    refine lv_aload_n hx hb dX6_left_26 rfl (lv_at hl 0 rfl) ?_
    refine gf_RX6_347 hx hb hts hown hK hP hi1 dX6_left_27 ?_
    cases (show some _ = some _ from hk)
    exact we_i hx hb hr hlocks hP rfl hS dX6_left_30 (by decide) (by decide)
  · have hk := it_f cz7 hk
    cases (show some _ = some _ from hk)
    obtain ⟨sa, hstr⟩ := EV.str hE (own := RX6) (k := 350) (tx := "the work is not in c") (by decide +kernel)
    exact vx_throwSW (mc := 2) (ms := 12) (names := ["java/lang/RuntimeException", "java/lang/Exception"]) hx hb hfl hown (by decide +kernel) (by decide +kernel) (hts _ q838) (hts _ q98) hstr (th_171 hE hts) (by decide +kernel) (EV.zu hE) (EV.zn hE) hS (hl.1.trans hml.symm) dX6_left_15 dX6_left_18 dX6_left_19 dX6_left_22 dX6_left_25 (hout9 _) (Nat.le_of_ble_eq_true rfl) (Nat.le_of_ble_eq_true rfl) (Nat.le_of_ble_eq_true rfl) (Nat.le_of_ble_eq_true rfl) hlocks (fun t9 _ h8 h9 => ⟨(), trivial, ⟨rfl, wP_kept hP h9⟩, fF hS h8 h9⟩) hS.2.2 (by decide) (by decide)
set_option maxHeartbeats 4000000 in
set_option maxRecDepth 100000 in
theorem k_X6_days (l : Launch) (hfl : l.stackTraces = false) (Z : ZT) (hZ : wD Z) (X M O : SS) (p0 : Int32) (Xz : SS) (o : Int32 ⊕ String) (hf : f_X6_days X p0 = some (Xz, o)) (sz : Nat) : vx_Met l yX6_days ws_X6_days rm_X6_days (va_Pc [.ref (Z.2.2 0 0), .int p0] (cP Z (X, M, O) sz)) (cQi Z (Xz, M, O) o sz) (cX Z (Xz, M, O) o sz) 1 6 (wA Z sz) := by
  refine vx_ofW (cc := cX6_days) (maxL := 5) (ret := (some .int)) (by decide) rfl ?_
  intro p e s m args below meth c s₁ B hml htab hv
  obtain ⟨hargs, hsz, hE, hP, hK⟩ := hv
  have hx := B.exec
  have hb := B.bytes
  have hr := B.returns
  have hts0 := atoms_spec (ws := ws_X6_days) B.pre
  have hts : ∀ w ∈ lw_all, w.before args s = true := fun w h => hts0 w (List.mem_cons_of_mem _ h)
  have hown : s.vm.findClass RX6 = some m.cls := findClass_of_methodNamed B.named
  have hlocks := B.notSynchronized
  have hout9 : ∀ (pc9 : Nat), ∀ x ∈ c.exceptionTable.toList, covers x pc9 = false := fun _ x hx9 => (htab x hx9).elim
  subst hsz
  have hS : va_S (wA Z s.heap.size) s.heap s.heap [] := va_S.rf
  have hl := lv_entry ([.ref (Z.2.2 0 0), .int p0]) (n := 5) (Nat.le_of_ble_eq_true rfl)
  have hen : entryFrame m args 5 = entryFrame m ([.ref (Z.2.2 0 0), .int p0] : List Value).toArray 5 := by rw [hargs]
  rw [hen, lg_entry_eq]
  generalize (lg_sl ([.ref (Z.2.2 0 0), .int p0]) ++ List.replicate (5 - (lg_sl ([.ref (Z.2.2 0 0), .int p0])).length) Slot.unset).toArray = ls at hl ⊢
  have hl : lv_has ls 5 [(0, .ref (Z.2.2 0 0)), (1, .int p0)] := hl
  have hk := hf
  unfold f_X6_days at hk
  refine lv_iload_n hx hb dX6_days_0 rfl (lv_at hl 1 rfl) ?_
  refine lv_iconst (v := (1 : Int32)) hx hb dX6_days_1 (by decide) ?_
  refine lv_icmp_lt (tgt := 11) hx hb dX6_days_2 (by decide) (fun cz1 => ?_) (fun cz1 => ?_)
  · have hk := it_t cz1 hk
    cases (show some _ = some _ from hk)
    obtain ⟨sa, hstr⟩ := EV.str hE (own := RX6) (k := 373) (tx := "the days are out of range") (by decide +kernel)
    exact vx_throwSW (mc := 1) (ms := 6) (names := ["java/lang/RuntimeException", "java/lang/Exception"]) hx hb hfl hown (by decide +kernel) (by decide +kernel) (hts _ q629) (hts _ q94) hstr (th_96 hE hts) (by decide +kernel) (EV.zu hE) (EV.zn hE) hS (hl.1.trans hml.symm) dX6_days_11 dX6_days_14 dX6_days_15 dX6_days_18 dX6_days_21 (hout9 _) (Nat.le_of_ble_eq_true rfl) (Nat.le_of_ble_eq_true rfl) (Nat.le_of_ble_eq_true rfl) (Nat.le_of_ble_eq_true rfl) hlocks (fun t9 _ h8 h9 => ⟨(), trivial, ⟨rfl, wP_kept hP h9⟩, fF hS h8 h9⟩) hS.2.2 (by decide) (by decide)
  · have hk := it_f cz1 hk
    refine lv_iload_n hx hb dX6_days_5 rfl (lv_at hl 1 rfl) ?_
    refine lv_bipush (v := (30 : Int32)) hx hb dX6_days_6 (by decide) ?_
    refine lv_icmp_le (tgt := 22) hx hb dX6_days_8 (by decide) (fun cz2 => ?_) (fun cz2 => ?_)
    · have hk := it_t cz2 hk
      refine lv_iconst (v := (0 : Int32)) hx hb dX6_days_22 (by decide) ?_
      refine lv_istore_n (lv' := [(2, .int (0 : Int32)), (0, .ref (Z.2.2 0 0)), (1, .int p0)]) hx hb dX6_days_23 rfl hl (by decide) rfl (fun ls hl => ?_)
      refine lv_aload_n hx hb dX6_days_24 rfl (lv_at hl 1 rfl) ?_
      refine gf_RX6_68 hx hb hts hown hK hP (by decide) dX6_days_25 ?_
      refine lv_iconst (v := (1 : Int32)) hx hb dX6_days_28 (by decide) ?_
      refine lv_isub hx hb dX6_days_29 ?_
      obtain ⟨v3, ev3, hk⟩ := lq_s hk
      refine W.eq (g2 := F0 m 30 ls [.int v3]) (by rw [ev3]) ?_
      refine lv_istore_n (lv' := [(3, .int v3), (2, .int (0 : Int32)), (0, .ref (Z.2.2 0 0)), (1, .int p0)]) hx hb dX6_days_30 rfl hl (by decide) rfl (fun ls hl => ?_)
      obtain ⟨k4, hk4, hk⟩ := gn hk
      have ex4 : ∀ (v5 : Int32) (X6 : SS) (H : Heap) (locs : List Loc) (ls : Array Slot), k4 v5 X6 = some (Xz, o) → wP Z (X6, M, O) H → va_S (wA Z s.heap.size) s.heap H locs → lv_has ls 5 [(2, .int v5)] → W p l e (headSpec ws_X6_days rm_X6_days).room s m args below meth c H locs 0 0 (vx_MQ below (cQi Z (Xz, M, O) o s.heap.size) (cX Z (Xz, M, O) o s.heap.size) args s 1 6 (wA Z s.heap.size)) (F0 m 123 ls []) := by
        intro v5 X6 H locs ls hk hP hS hl
        subst hk4
        refine lv_iload_n hx hb dX6_days_123 rfl (lv_at hl 0 rfl) ?_
        cases (show some _ = some _ from hk)
        exact we_i hx hb hr hlocks hP rfl hS dX6_days_124 (by decide) (by decide)
      have lp4 : ∀ (n : Nat) (v7 : Int32) (v8 : Int32) (X9 : SS) (H : Heap) (locs : List Loc) (ls : Array Slot), f_X6_days_L31 p0 n v7 v8 X9 k4 = some (Xz, o) → wP Z (X9, M, O) H → va_S (wA Z s.heap.size) s.heap H locs → lv_has ls 5 [(3, .int v7), (2, .int v8), (0, .ref (Z.2.2 0 0)), (1, .int p0)] → W p l e (headSpec ws_X6_days rm_X6_days).room s m args below meth c H locs 0 0 (vx_MQ below (cQi Z (Xz, M, O) o s.heap.size) (cX Z (Xz, M, O) o s.heap.size) args s 1 6 (wA Z s.heap.size)) (F0 m 31 ls []) := by
        intro n
        induction n with
        | zero =>
          intro v7 v8 X9 H locs ls hk
          rw [f_X6_days_L31] at hk
          exact nomatch (show none = some _ from hk)
        | succ n ih =>
          intro v7 v8 X9 H locs ls hk hP hS hl
          rw [f_X6_days_L31] at hk
          refine lv_iload_n hx hb dX6_days_31 rfl (lv_at hl 0 rfl) ?_
          refine lv_if_lt (tgt := 123) hx hb dX6_days_32 (by decide) (fun cz10 => ?_) (fun cz10 => ?_)
          · have hk := it_t cz10 hk
            exact ex4 v8 X9 _ _ _ hk hP hS (lv_sub hl [1] rfl)
          · have hk := it_f cz10 hk
            refine lv_aload_n hx hb dX6_days_35 rfl (lv_at hl 2 rfl) ?_
            refine gf_RX6_41 hx hb hts hown hK hP (by decide) dX6_days_36 ?_
            refine lv_iload_n hx hb dX6_days_39 rfl (lv_at hl 0 rfl) ?_
            obtain ⟨hg11, hk⟩ := gd_s hk
            refine wa_iaload_24 hx hb hK hP (by decide) hg11 dX6_days_40 ?_
            obtain ⟨v12, ev12, hk⟩ := lq_s hk
            refine W.eq (g2 := F0 m 41 ls [.int v12]) (by rw [ev12]) ?_
            refine lv_istore (lv' := [(4, .int v12), (3, .int v7), (2, .int v8), (0, .ref (Z.2.2 0 0)), (1, .int p0)]) hx hb dX6_days_41 hl (by decide) rfl (fun ls hl => ?_)
            refine lv_aload_n hx hb dX6_days_43 rfl (lv_at hl 3 rfl) ?_
            refine gf_RX6_37 hx hb hts hown hK hP (by decide) dX6_days_44 ?_
            refine lv_iload hx hb dX6_days_47 (lv_at hl 0 rfl) ?_
            obtain ⟨hg13, hk⟩ := gd_s hk
            refine wa_aaload_23 hx hb hK hP (by decide) hg13 dX6_days_49 ?_
            refine lv_dup hx hb dX6_days_50 rfl ?_
            refine gf_RX6_347 hx hb hts hown hK hP (vp_lt hg13) dX6_days_51 ?_
            refine lv_iload_n hx hb dX6_days_54 rfl (lv_at hl 4 rfl) ?_
            refine lv_isub hx hb dX6_days_55 ?_
            obtain ⟨X14, eX14, hk⟩ := lq_s hk
            refine pf_RX6_347 hx hb hts hown hZ hK hP hS (vp_lt hg13) dX6_days_56 (fun H locs hP hS => ?_)
            rw [← eX14] at hP
            refine lv_aload_n hx hb dX6_days_59 rfl (lv_at hl 3 rfl) ?_
            refine gf_RX6_37 hx hb hts hown hK hP (by decide) dX6_days_60 ?_
            refine lv_iload hx hb dX6_days_63 (lv_at hl 0 rfl) ?_
            obtain ⟨hg15, hk⟩ := gd_s hk
            refine wa_aaload_23 hx hb hK hP (by decide) hg15 dX6_days_65 ?_
            refine gf_RX6_347 hx hb hts hown hK hP (vp_lt hg15) dX6_days_66 ?_
            refine lv_if_gt (tgt := 117) hx hb dX6_days_69 (by decide) (fun cz16 => ?_) (fun cz16 => ?_)
            · have hk := it_t cz16 hk
              refine lv_iinc (v := (v7 + ((-1) : Int32))) (lv' := [(3, .int (v7 + ((-1) : Int32))), (4, .int v12), (2, .int v8), (0, .ref (Z.2.2 0 0)), (1, .int p0)]) hx hb dX6_days_117 hl (k := 1) rfl rfl (by decide) rfl (fun ls hl => ?_)
              refine lv_goto (tgt := 31) hx hb dX6_days_120 (by decide) ?_
              exact ih (v7 + ((-1) : Int32)) v8 X14 _ _ _ hk hP hS (lv_sub hl [0, 2, 3, 4] rfl)
            · have hk := it_f cz16 hk
              refine lv_aload_n hx hb dX6_days_72 rfl (lv_at hl 3 rfl) ?_
              refine lv_iload hx hb dX6_days_73 (lv_at hl 0 rfl) ?_
              obtain ⟨X18, v17, hf19, hk⟩ := b1_s hk
              refine wc_vV0 (rest := []) (As := [.int v12]) ⟨hx, hb, hml, hown, hts⟩ (fun sz => k_X6_closeChallenge l hfl Z hZ X14 M O v12 X18 v17 hf19 sz) (cw_RX6_375 (args := args) (s := s) hts (Nat.le_of_ble_eq_true rfl) (Nat.le_of_ble_eq_true rfl)) hE hP hK hS (rv_0 hK hP (by decide)) rfl hl.1 rfl (Nat.le_of_ble_eq_true rfl) dX6_days_75 ⟨Nat.le_of_ble_eq_true rfl, Nat.le_of_ble_eq_true rfl⟩ (fun H locs hP hS => ?_)
              refine lv_aload_n hx hb dX6_days_78 rfl (lv_at hl 3 rfl) ?_
              refine gf_RX6_37 hx hb hts hown hK hP (by decide) dX6_days_79 ?_
              refine lv_iload hx hb dX6_days_82 (lv_at hl 0 rfl) ?_
              obtain ⟨hg20, hk⟩ := gd_s hk
              refine wa_aaload_23 hx hb hK hP (by decide) hg20 dX6_days_84 ?_
              refine lv_bipush (v := (98 : Int32)) hx hb dX6_days_85 (by decide) ?_
              obtain ⟨X21, eX21, hk⟩ := lq_s hk
              refine pf_RX6_238 hx hb hts hown hZ hK hP hS (vp_lt hg20) (by unfold okc; decide) dX6_days_87 (fun H locs hP hS => ?_)
              rw [← eX21] at hP
              refine lv_aload_n hx hb dX6_days_90 rfl (lv_at hl 3 rfl) ?_
              refine gf_RX6_31 hx hb hts hown hK hP (by decide) dX6_days_91 ?_
              refine lv_aload_n hx hb dX6_days_94 rfl (lv_at hl 3 rfl) ?_
              refine gf_RX6_37 hx hb hts hown hK hP (by decide) dX6_days_95 ?_
              refine lv_iload hx hb dX6_days_98 (lv_at hl 0 rfl) ?_
              obtain ⟨hg22, hk⟩ := gd_s hk
              refine wa_aaload_23 hx hb hK hP (by decide) hg22 dX6_days_100 ?_
              refine gf_RX6_344 hx hb hts hown hK hP (vp_lt hg22) dX6_days_101 ?_
              obtain ⟨hg23, hk⟩ := gd_s hk
              refine wa_aaload_22 hx hb hK hP (by decide) hg23 dX6_days_104 ?_
              refine lv_dup hx hb dX6_days_105 rfl ?_
              refine gf_RX6_331 hx hb hts hown hK hP (vp_lt hg23) dX6_days_106 ?_
              refine lv_iconst (v := (5 : Int32)) hx hb dX6_days_109 (by decide) ?_
              refine lv_iadd hx hb dX6_days_110 ?_
              obtain ⟨X24, eX24, hk⟩ := lq_s hk
              refine pf_RX6_331 hx hb hts hown hZ hK hP hS (vp_lt hg23) dX6_days_111 (fun H locs hP hS => ?_)
              rw [← eX24] at hP
              refine lv_iinc (v := (v8 + (1 : Int32))) (lv' := [(2, .int (v8 + (1 : Int32))), (4, .int v12), (3, .int v7), (0, .ref (Z.2.2 0 0)), (1, .int p0)]) hx hb dX6_days_114 hl (k := 2) rfl rfl (by decide) rfl (fun ls hl => ?_)
              refine lv_iinc (v := (v7 + ((-1) : Int32))) (lv' := [(3, .int (v7 + ((-1) : Int32))), (2, .int (v8 + (1 : Int32))), (4, .int v12), (0, .ref (Z.2.2 0 0)), (1, .int p0)]) hx hb dX6_days_117 hl (k := 2) rfl rfl (by decide) rfl (fun ls hl => ?_)
              refine lv_goto (tgt := 31) hx hb dX6_days_120 (by decide) ?_
              exact ih (v7 + ((-1) : Int32)) (v8 + (1 : Int32)) X24 _ _ _ hk hP hS (lv_sub hl [0, 1, 3, 4] rfl)
      exact lp4 1000 v3 (0 : Int32) X _ _ _ hk hP hS (lv_sub hl [0, 1, 2, 3] rfl)
    · have hk := it_f cz2 hk
      cases (show some _ = some _ from hk)
      obtain ⟨sa, hstr⟩ := EV.str hE (own := RX6) (k := 373) (tx := "the days are out of range") (by decide +kernel)
      exact vx_throwSW (mc := 1) (ms := 6) (names := ["java/lang/RuntimeException", "java/lang/Exception"]) hx hb hfl hown (by decide +kernel) (by decide +kernel) (hts _ q629) (hts _ q94) hstr (th_96 hE hts) (by decide +kernel) (EV.zu hE) (EV.zn hE) hS (hl.1.trans hml.symm) dX6_days_11 dX6_days_14 dX6_days_15 dX6_days_18 dX6_days_21 (hout9 _) (Nat.le_of_ble_eq_true rfl) (Nat.le_of_ble_eq_true rfl) (Nat.le_of_ble_eq_true rfl) (Nat.le_of_ble_eq_true rfl) hlocks (fun t9 _ h8 h9 => ⟨(), trivial, ⟨rfl, wP_kept hP h9⟩, fF hS h8 h9⟩) hS.2.2 (by decide) (by decide)
set_option maxHeartbeats 4000000 in
set_option maxRecDepth 100000 in
theorem k_X6_checksum (l : Launch) (hfl : l.stackTraces = false) (Z : ZT) (hZ : wD Z) (X M O : SS) (r : Int64) (hf : f_X6_checksum X = some (r)) (sz : Nat) : vx_Met l yX6_checksum ws_X6_checksum rm_X6_checksum (va_Pc [.ref (Z.2.2 0 0)] (cP Z (X, M, O) sz)) (cQl Z (X, M, O) (.inl r) sz) (cX Z (X, M, O) (.inl r : Int64 ⊕ String) sz) 0 0 (wA Z sz) := by
  refine vx_ofW (cc := cX6_checksum) (maxL := 4) (ret := (some .long)) (by decide) rfl ?_
  intro p e s m args below meth c s₁ B hml htab hv
  obtain ⟨hargs, hsz, hE, hP, hK⟩ := hv
  have hx := B.exec
  have hb := B.bytes
  have hr := B.returns
  have hts0 := atoms_spec (ws := ws_X6_checksum) B.pre
  have hts : ∀ w ∈ lw_all, w.before args s = true := fun w h => hts0 w (List.mem_cons_of_mem _ h)
  have hown : s.vm.findClass RX6 = some m.cls := findClass_of_methodNamed B.named
  have hlocks := B.notSynchronized
  have hout9 : ∀ (pc9 : Nat), ∀ x ∈ c.exceptionTable.toList, covers x pc9 = false := fun _ x hx9 => (htab x hx9).elim
  subst hsz
  have hS : va_S (wA Z s.heap.size) s.heap s.heap [] := va_S.rf
  have hl := lv_entry ([.ref (Z.2.2 0 0)]) (n := 4) (Nat.le_of_ble_eq_true rfl)
  have hen : entryFrame m args 4 = entryFrame m ([.ref (Z.2.2 0 0)] : List Value).toArray 4 := by rw [hargs]
  rw [hen, lg_entry_eq]
  generalize (lg_sl ([.ref (Z.2.2 0 0)]) ++ List.replicate (4 - (lg_sl ([.ref (Z.2.2 0 0)])).length) Slot.unset).toArray = ls at hl ⊢
  have hl : lv_has ls 4 [(0, .ref (Z.2.2 0 0))] := hl
  have hk := hf
  unfold f_X6_checksum at hk
  refine lv_ldc2 (v := (7 : Int64)) hx hb hown (hts _ q408) dX6_checksum_0 ?_
  obtain ⟨v1, ev1, hk⟩ := lq_s hk
  refine W.eq (g2 := F0 m 3 ls [.long v1]) (by rw [ev1]) ?_
  refine lv_lstore_n (lv' := [(1, .long v1), (0, .ref (Z.2.2 0 0))]) hx hb dX6_checksum_3 rfl hl (by decide) rfl (fun ls hl => ?_)
  refine lv_iconst (v := (0 : Int32)) hx hb dX6_checksum_4 (by decide) ?_
  refine lv_istore_n (lv' := [(3, .int (0 : Int32)), (1, .long v1), (0, .ref (Z.2.2 0 0))]) hx hb dX6_checksum_5 rfl hl (by decide) rfl (fun ls hl => ?_)
  obtain ⟨k2, hk2, hk⟩ := gn hk
  have ex2 : ∀ (v3 : Int64) (H : Heap) (locs : List Loc) (ls : Array Slot), k2 v3 = some (r) → wP Z (X, M, O) H → va_S (wA Z s.heap.size) s.heap H locs → lv_has ls 4 [(1, .long v3), (0, .ref (Z.2.2 0 0))] → W p l e (headSpec ws_X6_checksum rm_X6_checksum).room s m args below meth c H locs 0 0 (vx_MQ below (cQl Z (X, M, O) (.inl r) s.heap.size) (cX Z (X, M, O) (.inl r : Int64 ⊕ String) s.heap.size) args s 0 0 (wA Z s.heap.size)) (F0 m 54 ls []) := by
    intro v3 H locs ls hk hP hS hl
    subst hk2
    refine lv_iconst (v := (0 : Int32)) hx hb dX6_checksum_54 (by decide) ?_
    refine lv_istore_n (lv' := [(3, .int (0 : Int32)), (1, .long v3), (0, .ref (Z.2.2 0 0))]) hx hb dX6_checksum_55 rfl hl (by decide) rfl (fun ls hl => ?_)
    obtain ⟨k6, hk6, hk⟩ := gn hk
    have ex6 : ∀ (v7 : Int64) (H : Heap) (locs : List Loc) (ls : Array Slot), k6 v7 = some (r) → wP Z (X, M, O) H → va_S (wA Z s.heap.size) s.heap H locs → lv_has ls 4 [(1, .long v7)] → W p l e (headSpec ws_X6_checksum rm_X6_checksum).room s m args below meth c H locs 0 0 (vx_MQ below (cQl Z (X, M, O) (.inl r) s.heap.size) (cX Z (X, M, O) (.inl r : Int64 ⊕ String) s.heap.size) args s 0 0 (wA Z s.heap.size)) (F0 m 87 ls []) := by
      intro v7 H locs ls hk hP hS hl
      subst hk6
      refine lv_lload_n hx hb dX6_checksum_87 rfl (lv_at hl 0 rfl) ?_
      cases (show some _ = some _ from hk)
      exact we_l hx hb hr hlocks hP rfl hS dX6_checksum_88 (by decide) (by decide)
    have lp6 : ∀ (n : Nat) (v8 : Int32) (v9 : Int64) (H : Heap) (locs : List Loc) (ls : Array Slot), f_X6_checksum_L56 X n v8 v9 k6 = some (r) → wP Z (X, M, O) H → va_S (wA Z s.heap.size) s.heap H locs → lv_has ls 4 [(3, .int v8), (1, .long v9), (0, .ref (Z.2.2 0 0))] → W p l e (headSpec ws_X6_checksum rm_X6_checksum).room s m args below meth c H locs 0 0 (vx_MQ below (cQl Z (X, M, O) (.inl r) s.heap.size) (cX Z (X, M, O) (.inl r : Int64 ⊕ String) s.heap.size) args s 0 0 (wA Z s.heap.size)) (F0 m 56 ls []) := by
      intro n
      induction n with
      | zero =>
        intro v8 v9 H locs ls hk
        rw [f_X6_checksum_L56] at hk
        exact nomatch (show none = some _ from hk)
      | succ n ih =>
        intro v8 v9 H locs ls hk hP hS hl
        rw [f_X6_checksum_L56] at hk
        refine lv_iload_n hx hb dX6_checksum_56 rfl (lv_at hl 0 rfl) ?_
        refine lv_aload_n hx hb dX6_checksum_57 rfl (lv_at hl 2 rfl) ?_
        refine gf_RX6_62 hx hb hts hown hK hP (by decide) dX6_checksum_58 ?_
        refine lv_icmp_ge (tgt := 87) hx hb dX6_checksum_61 (by decide) (fun cz10 => ?_) (fun cz10 => ?_)
        · have hk := it_t cz10 hk
          exact ex6 v9 _ _ _ hk hP hS (lv_sub hl [1] rfl)
        · have hk := it_f cz10 hk
          refine lv_lload_n hx hb dX6_checksum_64 rfl (lv_at hl 1 rfl) ?_
          refine lv_ldc2 (v := (31 : Int64)) hx hb hown (hts _ q409) dX6_checksum_65 ?_
          refine lv_lmul hx hb dX6_checksum_68 ?_
          refine lv_aload_n hx hb dX6_checksum_69 rfl (lv_at hl 2 rfl) ?_
          refine gf_RX6_31 hx hb hts hown hK hP (by decide) dX6_checksum_70 ?_
          refine lv_iload_n hx hb dX6_checksum_73 rfl (lv_at hl 0 rfl) ?_
          obtain ⟨hg11, hk⟩ := gd_s hk
          refine wa_aaload_22 hx hb hK hP (by decide) hg11 dX6_checksum_74 ?_
          refine gf_RX6_331 hx hb hts hown hK hP (vp_lt hg11) dX6_checksum_75 ?_
          refine lv_i2l (v := ((X.1 9 (v8).toNatClampNeg 3)).toInt64) hx hb dX6_checksum_78 rfl ?_
          refine lv_ladd hx hb dX6_checksum_79 ?_
          obtain ⟨v12, ev12, hk⟩ := lq_s hk
          refine W.eq (g2 := F0 m 80 ls [.long v12]) (by rw [ev12]) ?_
          refine lv_lstore_n (lv' := [(1, .long v12), (3, .int v8), (0, .ref (Z.2.2 0 0))]) hx hb dX6_checksum_80 rfl hl (by decide) rfl (fun ls hl => ?_)
          refine lv_iinc (v := (v8 + (1 : Int32))) (lv' := [(3, .int (v8 + (1 : Int32))), (1, .long v12), (0, .ref (Z.2.2 0 0))]) hx hb dX6_checksum_81 hl (k := 1) rfl rfl (by decide) rfl (fun ls hl => ?_)
          refine lv_goto (tgt := 56) hx hb dX6_checksum_84 (by decide) ?_
          exact ih (v8 + (1 : Int32)) v12 _ _ _ hk hP hS (lv_sub hl [0, 1, 2] rfl)
    exact lp6 1000 (0 : Int32) v3 _ _ _ hk hP hS (lv_sub hl [0, 1, 2] rfl)
  have lp2 : ∀ (n : Nat) (v4 : Int32) (v5 : Int64) (H : Heap) (locs : List Loc) (ls : Array Slot), f_X6_checksum_L6 X n v4 v5 k2 = some (r) → wP Z (X, M, O) H → va_S (wA Z s.heap.size) s.heap H locs → lv_has ls 4 [(3, .int v4), (1, .long v5), (0, .ref (Z.2.2 0 0))] → W p l e (headSpec ws_X6_checksum rm_X6_checksum).room s m args below meth c H locs 0 0 (vx_MQ below (cQl Z (X, M, O) (.inl r) s.heap.size) (cX Z (X, M, O) (.inl r : Int64 ⊕ String) s.heap.size) args s 0 0 (wA Z s.heap.size)) (F0 m 6 ls []) := by
    intro n
    induction n with
    | zero =>
      intro v4 v5 H locs ls hk
      rw [f_X6_checksum_L6] at hk
      exact nomatch (show none = some _ from hk)
    | succ n ih =>
      intro v4 v5 H locs ls hk hP hS hl
      rw [f_X6_checksum_L6] at hk
      refine lv_iload_n hx hb dX6_checksum_6 rfl (lv_at hl 0 rfl) ?_
      refine lv_aload_n hx hb dX6_checksum_7 rfl (lv_at hl 2 rfl) ?_
      refine gf_RX6_65 hx hb hts hown hK hP (by decide) dX6_checksum_8 ?_
      refine lv_icmp_ge (tgt := 54) hx hb dX6_checksum_11 (by decide) (fun cz13 => ?_) (fun cz13 => ?_)
      · have hk := it_t cz13 hk
        exact ex2 v5 _ _ _ hk hP hS (lv_sub hl [1, 2] rfl)
      · have hk := it_f cz13 hk
        refine lv_lload_n hx hb dX6_checksum_14 rfl (lv_at hl 1 rfl) ?_
        refine lv_ldc2 (v := (31 : Int64)) hx hb hown (hts _ q409) dX6_checksum_15 ?_
        refine lv_lmul hx hb dX6_checksum_18 ?_
        refine lv_aload_n hx hb dX6_checksum_19 rfl (lv_at hl 2 rfl) ?_
        refine gf_RX6_37 hx hb hts hown hK hP (by decide) dX6_checksum_20 ?_
        refine lv_iload_n hx hb dX6_checksum_23 rfl (lv_at hl 0 rfl) ?_
        obtain ⟨hg14, hk⟩ := gd_s hk
        refine wa_aaload_23 hx hb hK hP (by decide) hg14 dX6_checksum_24 ?_
        refine gf_RX6_238 hx hb hts hown hK hP (vp_lt hg14) dX6_checksum_25 ?_
        refine lv_i2l (v := ((X.1 12 (v4).toNatClampNeg 11)).toInt64) hx hb dX6_checksum_28 rfl ?_
        refine lv_ladd hx hb dX6_checksum_29 ?_
        obtain ⟨v15, ev15, hk⟩ := lq_s hk
        refine W.eq (g2 := F0 m 30 ls [.long v15]) (by rw [ev15]) ?_
        refine lv_lstore_n (lv' := [(1, .long v15), (3, .int v4), (0, .ref (Z.2.2 0 0))]) hx hb dX6_checksum_30 rfl hl (by decide) rfl (fun ls hl => ?_)
        refine lv_lload_n hx hb dX6_checksum_31 rfl (lv_at hl 0 rfl) ?_
        refine lv_ldc2 (v := (31 : Int64)) hx hb hown (hts _ q409) dX6_checksum_32 ?_
        refine lv_lmul hx hb dX6_checksum_35 ?_
        refine lv_aload_n hx hb dX6_checksum_36 rfl (lv_at hl 2 rfl) ?_
        refine gf_RX6_37 hx hb hts hown hK hP (by decide) dX6_checksum_37 ?_
        refine lv_iload_n hx hb dX6_checksum_40 rfl (lv_at hl 1 rfl) ?_
        obtain ⟨hg16, hk⟩ := gd_s hk
        refine wa_aaload_23 hx hb hK hP (by decide) hg16 dX6_checksum_41 ?_
        refine gf_RX6_382 hx hb hts hown hK hP (vp_lt hg16) dX6_checksum_42 ?_
        refine lv_i2l (v := ((X.1 12 (v4).toNatClampNeg 6)).toInt64) hx hb dX6_checksum_45 rfl ?_
        refine lv_ladd hx hb dX6_checksum_46 ?_
        obtain ⟨v17, ev17, hk⟩ := lq_s hk
        refine W.eq (g2 := F0 m 47 ls [.long v17]) (by rw [ev17]) ?_
        refine lv_lstore_n (lv' := [(1, .long v17), (3, .int v4), (0, .ref (Z.2.2 0 0))]) hx hb dX6_checksum_47 rfl hl (by decide) rfl (fun ls hl => ?_)
        refine lv_iinc (v := (v4 + (1 : Int32))) (lv' := [(3, .int (v4 + (1 : Int32))), (1, .long v17), (0, .ref (Z.2.2 0 0))]) hx hb dX6_checksum_48 hl (k := 1) rfl rfl (by decide) rfl (fun ls hl => ?_)
        refine lv_goto (tgt := 6) hx hb dX6_checksum_51 (by decide) ?_
        exact ih (v4 + (1 : Int32)) v17 _ _ _ hk hP hS (lv_sub hl [0, 1, 2] rfl)
  exact lp2 1000 (0 : Int32) v1 _ _ _ hk hP hS (lv_sub hl [0, 1, 2] rfl)
set_option maxHeartbeats 4000000 in
set_option maxRecDepth 100000 in
theorem k_X6_standingShare (l : Launch) (hfl : l.stackTraces = false) (Z : ZT) (hZ : wD Z) (X M O : SS) (o : UInt32 ⊕ String) (hf : f_X6_standingShare X = some (o)) (sz : Nat) : vx_Met l yX6_standingShare ws_X6_standingShare rm_X6_standingShare (va_Pc [.ref (Z.2.2 0 0)] (cP Z (X, M, O) sz)) (cQf Z (X, M, O) o sz) (cX Z (X, M, O) o sz) 1 6 (wA Z sz) := by
  refine vx_ofW (cc := cX6_standingShare) (maxL := 3) (ret := (some .float)) (by decide) rfl ?_
  intro p e s m args below meth c s₁ B hml htab hv
  obtain ⟨hargs, hsz, hE, hP, hK⟩ := hv
  have hx := B.exec
  have hb := B.bytes
  have hr := B.returns
  have hts0 := atoms_spec (ws := ws_X6_standingShare) B.pre
  have hts : ∀ w ∈ lw_all, w.before args s = true := fun w h => hts0 w (List.mem_cons_of_mem _ h)
  have hown : s.vm.findClass RX6 = some m.cls := findClass_of_methodNamed B.named
  have hlocks := B.notSynchronized
  have hout9 : ∀ (pc9 : Nat), ∀ x ∈ c.exceptionTable.toList, covers x pc9 = false := fun _ x hx9 => (htab x hx9).elim
  subst hsz
  have hS : va_S (wA Z s.heap.size) s.heap s.heap [] := va_S.rf
  have hl := lv_entry ([.ref (Z.2.2 0 0)]) (n := 3) (Nat.le_of_ble_eq_true rfl)
  have hen : entryFrame m args 3 = entryFrame m ([.ref (Z.2.2 0 0)] : List Value).toArray 3 := by rw [hargs]
  rw [hen, lg_entry_eq]
  generalize (lg_sl ([.ref (Z.2.2 0 0)]) ++ List.replicate (3 - (lg_sl ([.ref (Z.2.2 0 0)])).length) Slot.unset).toArray = ls at hl ⊢
  have hl : lv_has ls 3 [(0, .ref (Z.2.2 0 0))] := hl
  have hk := hf
  unfold f_X6_standingShare at hk
  refine lv_aload_n hx hb dX6_standingShare_0 rfl (lv_at hl 0 rfl) ?_
  refine gf_RX6_65 hx hb hts hown hK hP (by decide) dX6_standingShare_1 ?_
  refine lv_if_ne (tgt := 18) hx hb dX6_standingShare_4 (by decide) (fun cz1 => ?_) (fun cz1 => ?_)
  · have hk := it_f cz1 hk
    refine lv_iconst (v := (0 : Int32)) hx hb dX6_standingShare_18 (by decide) ?_
    refine lv_istore_n (lv' := [(1, .int (0 : Int32)), (0, .ref (Z.2.2 0 0))]) hx hb dX6_standingShare_19 rfl hl (by decide) rfl (fun ls hl => ?_)
    refine lv_iconst (v := (0 : Int32)) hx hb dX6_standingShare_20 (by decide) ?_
    refine lv_istore_n (lv' := [(2, .int (0 : Int32)), (1, .int (0 : Int32)), (0, .ref (Z.2.2 0 0))]) hx hb dX6_standingShare_21 rfl hl (by decide) rfl (fun ls hl => ?_)
    obtain ⟨k2, hk2, hk⟩ := gn hk
    have ex2 : ∀ (v3 : Int32) (H : Heap) (locs : List Loc) (ls : Array Slot), k2 v3 = some (o) → wP Z (X, M, O) H → va_S (wA Z s.heap.size) s.heap H locs → lv_has ls 3 [(1, .int v3), (0, .ref (Z.2.2 0 0))] → W p l e (headSpec ws_X6_standingShare rm_X6_standingShare).room s m args below meth c H locs 0 0 (vx_MQ below (cQf Z (X, M, O) o s.heap.size) (cX Z (X, M, O) o s.heap.size) args s 1 6 (wA Z s.heap.size)) (F0 m 51 ls []) := by
      intro v3 H locs ls hk hP hS hl
      subst hk2
      refine lv_iload_n hx hb dX6_standingShare_51 rfl (lv_at hl 0 rfl) ?_
      refine lv_i2f hx hb dX6_standingShare_52 ?_
      refine lv_aload_n hx hb dX6_standingShare_53 rfl (lv_at hl 1 rfl) ?_
      refine gf_RX6_65 hx hb hts hown hK hP (by decide) dX6_standingShare_54 ?_
      refine lv_i2f hx hb dX6_standingShare_57 ?_
      obtain ⟨hg6, hk⟩ := gd_s hk
      refine lv_fdiv hx hb dX6_standingShare_58 hg6 ?_
      cases (show some _ = some _ from hk)
      exact we_f hx hb hr hlocks hP rfl hS dX6_standingShare_59 (by decide) (by decide)
    have lp2 : ∀ (n : Nat) (v4 : Int32) (v5 : Int32) (H : Heap) (locs : List Loc) (ls : Array Slot), f_X6_standingShare_L22 X n v4 v5 k2 = some (o) → wP Z (X, M, O) H → va_S (wA Z s.heap.size) s.heap H locs → lv_has ls 3 [(2, .int v4), (1, .int v5), (0, .ref (Z.2.2 0 0))] → W p l e (headSpec ws_X6_standingShare rm_X6_standingShare).room s m args below meth c H locs 0 0 (vx_MQ below (cQf Z (X, M, O) o s.heap.size) (cX Z (X, M, O) o s.heap.size) args s 1 6 (wA Z s.heap.size)) (F0 m 22 ls []) := by
      intro n
      induction n with
      | zero =>
        intro v4 v5 H locs ls hk
        rw [f_X6_standingShare_L22] at hk
        exact nomatch (show none = some _ from hk)
      | succ n ih =>
        intro v4 v5 H locs ls hk hP hS hl
        rw [f_X6_standingShare_L22] at hk
        refine lv_iload_n hx hb dX6_standingShare_22 rfl (lv_at hl 0 rfl) ?_
        refine lv_aload_n hx hb dX6_standingShare_23 rfl (lv_at hl 2 rfl) ?_
        refine gf_RX6_65 hx hb hts hown hK hP (by decide) dX6_standingShare_24 ?_
        refine lv_icmp_ge (tgt := 51) hx hb dX6_standingShare_27 (by decide) (fun cz7 => ?_) (fun cz7 => ?_)
        · have hk := it_t cz7 hk
          exact ex2 v5 _ _ _ hk hP hS (lv_sub hl [1, 2] rfl)
        · have hk := it_f cz7 hk
          refine lv_aload_n hx hb dX6_standingShare_30 rfl (lv_at hl 2 rfl) ?_
          refine gf_RX6_37 hx hb hts hown hK hP (by decide) dX6_standingShare_31 ?_
          refine lv_iload_n hx hb dX6_standingShare_34 rfl (lv_at hl 0 rfl) ?_
          obtain ⟨hg8, hk⟩ := gd_s hk
          refine wa_aaload_23 hx hb hK hP (by decide) hg8 dX6_standingShare_35 ?_
          obtain ⟨v9, hf10, hk⟩ := b0_s hk
          refine wc_iV0 (rest := []) (As := []) ⟨hx, hb, hml, hown, hts⟩ (fun sz => k_X5_isCounted l hfl Z hZ X M O (v4).toNatClampNeg (vp_lt hg8) v9 hf10 sz) (cw_RX6_390 (args := args) (s := s) hts (Nat.le_of_ble_eq_true rfl) (Nat.le_of_ble_eq_true rfl)) hE hP hK hS (rv_12 hK hP (vp_lt hg8)) rfl hl.1 rfl (Nat.le_of_ble_eq_true rfl) dX6_standingShare_36 ⟨Nat.le_of_ble_eq_true rfl, Nat.le_of_ble_eq_true rfl⟩ (fun H locs hP hS => ?_)
          refine lv_if_eq (tgt := 45) hx hb dX6_standingShare_39 (by decide) (fun cz11 => ?_) (fun cz11 => ?_)
          · have hk := it_t cz11 hk
            refine lv_iinc (v := (v4 + (1 : Int32))) (lv' := [(2, .int (v4 + (1 : Int32))), (1, .int v5), (0, .ref (Z.2.2 0 0))]) hx hb dX6_standingShare_45 hl (k := 0) rfl rfl (by decide) rfl (fun ls hl => ?_)
            refine lv_goto (tgt := 22) hx hb dX6_standingShare_48 (by decide) ?_
            exact ih (v4 + (1 : Int32)) v5 _ _ _ hk hP hS (lv_sub hl [0, 1, 2] rfl)
          · have hk := it_f cz11 hk
            refine lv_iinc (v := (v5 + (1 : Int32))) (lv' := [(1, .int (v5 + (1 : Int32))), (2, .int v4), (0, .ref (Z.2.2 0 0))]) hx hb dX6_standingShare_42 hl (k := 1) rfl rfl (by decide) rfl (fun ls hl => ?_)
            refine lv_iinc (v := (v4 + (1 : Int32))) (lv' := [(2, .int (v4 + (1 : Int32))), (1, .int (v5 + (1 : Int32))), (0, .ref (Z.2.2 0 0))]) hx hb dX6_standingShare_45 hl (k := 1) rfl rfl (by decide) rfl (fun ls hl => ?_)
            refine lv_goto (tgt := 22) hx hb dX6_standingShare_48 (by decide) ?_
            exact ih (v4 + (1 : Int32)) (v5 + (1 : Int32)) _ _ _ hk hP hS (lv_sub hl [0, 1, 2] rfl)
    exact lp2 1000 (0 : Int32) (0 : Int32) _ _ _ hk hP hS (lv_sub hl [0, 1, 2] rfl)
  · have hk := it_t cz1 hk
    cases (show some _ = some _ from hk)
    obtain ⟨sa, hstr⟩ := EV.str hE (own := RX6) (k := 387) (tx := "there are no works") (by decide +kernel)
    exact vx_throwSW (mc := 1) (ms := 6) (names := ["java/lang/RuntimeException", "java/lang/Exception"]) hx hb hfl hown (by decide +kernel) (by decide +kernel) (hts _ q1219) (hts _ q100) hstr (th_389 hE hts) (by decide +kernel) (EV.zu hE) (EV.zn hE) hS (hl.1.trans hml.symm) dX6_standingShare_7 dX6_standingShare_10 dX6_standingShare_11 dX6_standingShare_14 dX6_standingShare_17 (hout9 _) (Nat.le_of_ble_eq_true rfl) (Nat.le_of_ble_eq_true rfl) (Nat.le_of_ble_eq_true rfl) (Nat.le_of_ble_eq_true rfl) hlocks (fun t9 _ h8 h9 => ⟨(), trivial, ⟨rfl, wP_kept hP h9⟩, fF hS h8 h9⟩) hS.2.2 (by decide) (by decide)
set_option maxHeartbeats 4000000 in
set_option maxRecDepth 100000 in
theorem k_X6_meanSteps (l : Launch) (hfl : l.stackTraces = false) (Z : ZT) (hZ : wD Z) (X M O : SS) (p0 : Int32) (Xz : SS) (o : UInt64 ⊕ String) (hf : f_X6_meanSteps X p0 = some (Xz, o)) (sz : Nat) : vx_Met l yX6_meanSteps ws_X6_meanSteps rm_X6_meanSteps (va_Pc [.ref (Z.2.2 0 0), .int p0] (cP Z (X, M, O) sz)) (cQd Z (Xz, M, O) o sz) (cX Z (Xz, M, O) o sz) 2 12 (wA Z sz) := by
  refine vx_ofW (cc := cX6_meanSteps) (maxL := 7) (ret := (some .double)) (by decide) rfl ?_
  intro p e s m args below meth c s₁ B hml htab hv
  obtain ⟨hargs, hsz, hE, hP, hK⟩ := hv
  have hx := B.exec
  have hb := B.bytes
  have hr := B.returns
  have hts0 := atoms_spec (ws := ws_X6_meanSteps) B.pre
  have hts : ∀ w ∈ lw_all, w.before args s = true := fun w h => hts0 w (List.mem_cons_of_mem _ h)
  have hown : s.vm.findClass RX6 = some m.cls := findClass_of_methodNamed B.named
  have hlocks := B.notSynchronized
  have hout9 : ∀ (pc9 : Nat), ∀ x ∈ c.exceptionTable.toList, covers x pc9 = false := fun _ x hx9 => (htab x hx9).elim
  subst hsz
  have hS : va_S (wA Z s.heap.size) s.heap s.heap [] := va_S.rf
  have hl := lv_entry ([.ref (Z.2.2 0 0), .int p0]) (n := 7) (Nat.le_of_ble_eq_true rfl)
  have hen : entryFrame m args 7 = entryFrame m ([.ref (Z.2.2 0 0), .int p0] : List Value).toArray 7 := by rw [hargs]
  rw [hen, lg_entry_eq]
  generalize (lg_sl ([.ref (Z.2.2 0 0), .int p0]) ++ List.replicate (7 - (lg_sl ([.ref (Z.2.2 0 0), .int p0])).length) Slot.unset).toArray = ls at hl ⊢
  have hl : lv_has ls 7 [(0, .ref (Z.2.2 0 0)), (1, .int p0)] := hl
  have hk := hf
  unfold f_X6_meanSteps at hk
  refine lv_aload_n hx hb dX6_meanSteps_0 rfl (lv_at hl 0 rfl) ?_
  refine lv_iload_n hx hb dX6_meanSteps_1 rfl (lv_at hl 1 rfl) ?_
  obtain ⟨o3, hf2, hn5, he6⟩ := e0_s hk
  refine wc_qV (kd := 12) (rest := []) (As := [.int p0]) ⟨hx, hb, hml, hown, hts⟩ (fun sz => k_X6_workAt l hfl Z hZ X M O p0 o3 hf2 sz) (cw_RX6_219 (args := args) (s := s) hts (Nat.le_of_ble_eq_true rfl) (Nat.le_of_ble_eq_true rfl)) hE hP hK hS (rv_0 hK hP (by decide)) rfl hl.1 rfl (Nat.le_of_ble_eq_true rfl) dX6_meanSteps_2 ⟨Nat.le_of_ble_eq_true rfl, Nat.le_of_ble_eq_true rfl⟩ (fun E4 ce9 q9 H locs hoE hP hS hc9 hv9 hcl9 => ?_) (fun i1 hi1 H locs ho hP hS => ?_)
  · have hk := he6 _ hoE
    cases (show some _ = some _ from hk)
    exact vx_out (hout9 _) hlocks hc9 hv9 hcl9 (fun t8 ht8 hA8 => ⟨(), trivial, ⟨rfl, wP_eq ht8 hP⟩, hS.F ht8⟩) hS.2.2 (by decide) (by decide)
  have hk := hn5 _ ho
  refine lv_astore_n (lv' := [(2, .ref (Z.2.2 12 i1)), (0, .ref (Z.2.2 0 0)), (1, .int p0)]) hx hb dX6_meanSteps_5 rfl hl (by decide) rfl (fun ls hl => ?_)
  refine lv_iconst (v := (0 : Int32)) hx hb dX6_meanSteps_6 (by decide) ?_
  refine lv_istore_n (lv' := [(3, .int (0 : Int32)), (2, .ref (Z.2.2 12 i1)), (0, .ref (Z.2.2 0 0)), (1, .int p0)]) hx hb dX6_meanSteps_7 rfl hl (by decide) rfl (fun ls hl => ?_)
  refine lv_iconst (v := (0 : Int32)) hx hb dX6_meanSteps_8 (by decide) ?_
  refine lv_istore (lv' := [(4, .int (0 : Int32)), (3, .int (0 : Int32)), (2, .ref (Z.2.2 12 i1)), (0, .ref (Z.2.2 0 0)), (1, .int p0)]) hx hb dX6_meanSteps_9 hl (by decide) rfl (fun ls hl => ?_)
  refine lv_iconst (v := (0 : Int32)) hx hb dX6_meanSteps_11 (by decide) ?_
  refine lv_istore (lv' := [(5, .int (0 : Int32)), (4, .int (0 : Int32)), (3, .int (0 : Int32)), (2, .ref (Z.2.2 12 i1)), (0, .ref (Z.2.2 0 0)), (1, .int p0)]) hx hb dX6_meanSteps_12 hl (by decide) rfl (fun ls hl => ?_)
  obtain ⟨k7, hk7, hk⟩ := gn hk
  have ex7 : ∀ (v8 : Int32) (v9 : Int32) (X10 : SS) (H : Heap) (locs : List Loc) (ls : Array Slot), k7 v8 v9 X10 = some (Xz, o) → wP Z (X10, M, O) H → va_S (wA Z s.heap.size) s.heap H locs → lv_has ls 7 [(4, .int v8), (3, .int v9)] → W p l e (headSpec ws_X6_meanSteps rm_X6_meanSteps).room s m args below meth c H locs 1 6 (vx_MQ below (cQd Z (Xz, M, O) o s.heap.size) (cX Z (Xz, M, O) o s.heap.size) args s 2 12 (wA Z s.heap.size)) (F0 m 60 ls []) := by
    intro v8 v9 X10 H locs ls hk hP hS hl
    subst hk7
    refine lv_iload hx hb dX6_meanSteps_60 (lv_at hl 0 rfl) ?_
    refine lv_if_ne (tgt := 76) hx hb dX6_meanSteps_62 (by decide) (fun cz15 => ?_) (fun cz15 => ?_)
    · have hk := it_f cz15 hk
      refine lv_iload_n hx hb dX6_meanSteps_76 rfl (lv_at hl 1 rfl) ?_
      refine lv_i2d hx hb dX6_meanSteps_77 ?_
      refine lv_iload hx hb dX6_meanSteps_78 (lv_at hl 0 rfl) ?_
      refine lv_i2d hx hb dX6_meanSteps_80 ?_
      obtain ⟨hg16, hk⟩ := gd_s hk
      refine lv_ddiv hx hb dX6_meanSteps_81 hg16 ?_
      cases (show some _ = some _ from hk)
      exact we_d hx hb hr hlocks hP rfl hS dX6_meanSteps_82 (by decide) (by decide)
    · have hk := it_t cz15 hk
      cases (show some _ = some _ from hk)
      obtain ⟨sa, hstr⟩ := EV.str hE (own := RX6) (k := 393) (tx := "there are no steps") (by decide +kernel)
      exact vx_throwSW (mc := 2) (ms := 12) (names := ["java/lang/RuntimeException", "java/lang/Exception"]) hx hb hfl hown (by decide +kernel) (by decide +kernel) (hts _ q1219) (hts _ q100) hstr (th_389 hE hts) (by decide +kernel) (EV.zu hE) (EV.zn hE) hS (hl.1.trans hml.symm) dX6_meanSteps_65 dX6_meanSteps_68 dX6_meanSteps_69 dX6_meanSteps_72 dX6_meanSteps_75 (hout9 _) (Nat.le_of_ble_eq_true rfl) (Nat.le_of_ble_eq_true rfl) (Nat.le_of_ble_eq_true rfl) (Nat.le_of_ble_eq_true rfl) hlocks (fun t9 _ h8 h9 => ⟨(), trivial, ⟨rfl, wP_kept hP h9⟩, fF hS h8 h9⟩) hS.2.2 (by decide) (by decide)
  have lp7 : ∀ (n : Nat) (v11 : Int32) (v12 : Int32) (v13 : Int32) (X14 : SS) (H : Heap) (locs : List Loc) (ls : Array Slot), f_X6_meanSteps_L14 i1 n v11 v12 v13 X14 k7 = some (Xz, o) → wP Z (X14, M, O) H → va_S (wA Z s.heap.size) s.heap H locs → lv_has ls 7 [(5, .int v11), (4, .int v12), (3, .int v13), (2, .ref (Z.2.2 12 i1)), (0, .ref (Z.2.2 0 0))] → W p l e (headSpec ws_X6_meanSteps rm_X6_meanSteps).room s m args below meth c H locs 1 6 (vx_MQ below (cQd Z (Xz, M, O) o s.heap.size) (cX Z (Xz, M, O) o s.heap.size) args s 2 12 (wA Z s.heap.size)) (F0 m 14 ls []) := by
    intro n
    induction n with
    | zero =>
      intro v11 v12 v13 X14 H locs ls hk
      rw [f_X6_meanSteps_L14] at hk
      exact nomatch (show none = some _ from hk)
    | succ n ih =>
      intro v11 v12 v13 X14 H locs ls hk hP hS hl
      rw [f_X6_meanSteps_L14] at hk
      refine lv_iload hx hb dX6_meanSteps_14 (lv_at hl 0 rfl) ?_
      refine lv_aload_n hx hb dX6_meanSteps_16 rfl (lv_at hl 4 rfl) ?_
      refine gf_RX6_25 hx hb hts hown hK hP (by decide) dX6_meanSteps_17 ?_
      refine lv_aload_n hx hb dX6_meanSteps_20 rfl (lv_at hl 3 rfl) ?_
      refine gf_RX6_226 hx hb hts hown hK hP hi1 dX6_meanSteps_21 ?_
      obtain ⟨hg17, hk⟩ := gd_s hk
      refine wa_aaload_21 hx hb hK hP (by decide) hg17 dX6_meanSteps_24 ?_
      refine gf_RX6_146 hx hb hts hown hK hP (vp_lt hg17) dX6_meanSteps_25 ?_
      refine lv_icmp_ge (tgt := 60) hx hb dX6_meanSteps_28 (by decide) (fun cz18 => ?_) (fun cz18 => ?_)
      · have hk := it_t cz18 hk
        exact ex7 v12 v13 X14 _ _ _ hk hP hS (lv_sub hl [1, 2] rfl)
      · have hk := it_f cz18 hk
        refine lv_aload_n hx hb dX6_meanSteps_31 rfl (lv_at hl 4 rfl) ?_
        refine lv_aload_n hx hb dX6_meanSteps_32 rfl (lv_at hl 3 rfl) ?_
        refine lv_iload hx hb dX6_meanSteps_33 (lv_at hl 0 rfl) ?_
        obtain ⟨X20, v19, hf21, hk⟩ := b1_s hk
        refine wc_iV0 (rest := []) (As := [.ref (Z.2.2 12 i1), .int v11]) ⟨hx, hb, hml, hown, hts⟩ (fun sz => k_X6_stepsTold l hfl Z hZ X14 M O i1 v11 hi1 X20 v19 hf21 sz) (cw_RX6_246 (args := args) (s := s) hts (Nat.le_of_ble_eq_true rfl) (Nat.le_of_ble_eq_true rfl)) hE hP hK hS (rv_0 hK hP (by decide)) rfl hl.1 rfl (Nat.le_of_ble_eq_true rfl) dX6_meanSteps_35 ⟨Nat.le_of_ble_eq_true rfl, Nat.le_of_ble_eq_true rfl⟩ (fun H locs hP hS => ?_)
        refine lv_istore (lv' := [(6, .int v19), (5, .int v11), (4, .int v12), (3, .int v13), (2, .ref (Z.2.2 12 i1)), (0, .ref (Z.2.2 0 0))]) hx hb dX6_meanSteps_38 hl (by decide) rfl (fun ls hl => ?_)
        refine lv_iload hx hb dX6_meanSteps_40 (lv_at hl 0 rfl) ?_
        refine lv_iconst (v := ((-1) : Int32)) hx hb dX6_meanSteps_42 (by decide) ?_
        refine lv_icmp_eq (tgt := 54) hx hb dX6_meanSteps_43 (by decide) (fun cz22 => ?_) (fun cz22 => ?_)
        · have hk := it_t cz22 hk
          refine lv_iinc (v := (v11 + (1 : Int32))) (lv' := [(5, .int (v11 + (1 : Int32))), (6, .int v19), (4, .int v12), (3, .int v13), (2, .ref (Z.2.2 12 i1)), (0, .ref (Z.2.2 0 0))]) hx hb dX6_meanSteps_54 hl (k := 1) rfl rfl (by decide) rfl (fun ls hl => ?_)
          refine lv_goto (tgt := 14) hx hb dX6_meanSteps_57 (by decide) ?_
          exact ih (v11 + (1 : Int32)) v12 v13 X20 _ _ _ hk hP hS (lv_sub hl [0, 2, 3, 4, 5] rfl)
        · have hk := it_f cz22 hk
          refine lv_iload_n hx hb dX6_meanSteps_46 rfl (lv_at hl 3 rfl) ?_
          refine lv_iload hx hb dX6_meanSteps_47 (lv_at hl 0 rfl) ?_
          refine lv_iadd hx hb dX6_meanSteps_49 ?_
          obtain ⟨v23, ev23, hk⟩ := lq_s hk
          refine W.eq (g2 := F0 m 50 ls [.int v23]) (by rw [ev23]) ?_
          refine lv_istore_n (lv' := [(3, .int v23), (6, .int v19), (5, .int v11), (4, .int v12), (2, .ref (Z.2.2 12 i1)), (0, .ref (Z.2.2 0 0))]) hx hb dX6_meanSteps_50 rfl hl (by decide) rfl (fun ls hl => ?_)
          refine lv_iinc (v := (v12 + (1 : Int32))) (lv' := [(4, .int (v12 + (1 : Int32))), (3, .int v23), (6, .int v19), (5, .int v11), (2, .ref (Z.2.2 12 i1)), (0, .ref (Z.2.2 0 0))]) hx hb dX6_meanSteps_51 hl (k := 3) rfl rfl (by decide) rfl (fun ls hl => ?_)
          refine lv_iinc (v := (v11 + (1 : Int32))) (lv' := [(5, .int (v11 + (1 : Int32))), (4, .int (v12 + (1 : Int32))), (3, .int v23), (6, .int v19), (2, .ref (Z.2.2 12 i1)), (0, .ref (Z.2.2 0 0))]) hx hb dX6_meanSteps_54 hl (k := 3) rfl rfl (by decide) rfl (fun ls hl => ?_)
          refine lv_goto (tgt := 14) hx hb dX6_meanSteps_57 (by decide) ?_
          exact ih (v11 + (1 : Int32)) (v12 + (1 : Int32)) v23 X20 _ _ _ hk hP hS (lv_sub hl [0, 1, 2, 4, 5] rfl)
  exact lp7 1000 (0 : Int32) (0 : Int32) (0 : Int32) X _ _ _ hk hP hS (lv_sub hl [0, 1, 2, 3, 4] rfl)
set_option maxHeartbeats 4000000 in
set_option maxRecDepth 100000 in
theorem k_X6_areBodiesSound (l : Launch) (hfl : l.stackTraces = false) (Z : ZT) (hZ : wD Z) (X M O : SS) (Xz : SS) (r : Int32) (hf : f_X6_areBodiesSound X = some (Xz, r)) (sz : Nat) : vx_Met l yX6_areBodiesSound ws_X6_areBodiesSound rm_X6_areBodiesSound (va_Pc [.ref (Z.2.2 0 0)] (cP Z (X, M, O) sz)) (cQi Z (Xz, M, O) (.inl r) sz) (cX Z (Xz, M, O) (.inl r : Int32 ⊕ String) sz) 0 0 (wA Z sz) := by
  refine vx_ofW (cc := cX6_areBodiesSound) (maxL := 3) (ret := (some .boolean)) (by decide) rfl ?_
  intro p e s m args below meth c s₁ B hml htab hv
  obtain ⟨hargs, hsz, hE, hP, hK⟩ := hv
  have hx := B.exec
  have hb := B.bytes
  have hr := B.returns
  have hts0 := atoms_spec (ws := ws_X6_areBodiesSound) B.pre
  have hts : ∀ w ∈ lw_all, w.before args s = true := fun w h => hts0 w (List.mem_cons_of_mem _ h)
  have hown : s.vm.findClass RX6 = some m.cls := findClass_of_methodNamed B.named
  have hlocks := B.notSynchronized
  have hout9 : ∀ (pc9 : Nat), ∀ x ∈ c.exceptionTable.toList, covers x pc9 = false := fun _ x hx9 => (htab x hx9).elim
  subst hsz
  have hS : va_S (wA Z s.heap.size) s.heap s.heap [] := va_S.rf
  have hl := lv_entry ([.ref (Z.2.2 0 0)]) (n := 3) (Nat.le_of_ble_eq_true rfl)
  have hen : entryFrame m args 3 = entryFrame m ([.ref (Z.2.2 0 0)] : List Value).toArray 3 := by rw [hargs]
  rw [hen, lg_entry_eq]
  generalize (lg_sl ([.ref (Z.2.2 0 0)]) ++ List.replicate (3 - (lg_sl ([.ref (Z.2.2 0 0)])).length) Slot.unset).toArray = ls at hl ⊢
  have hl : lv_has ls 3 [(0, .ref (Z.2.2 0 0))] := hl
  have hk := hf
  unfold f_X6_areBodiesSound at hk
  refine lv_iconst (v := (0 : Int32)) hx hb dX6_areBodiesSound_0 (by decide) ?_
  refine lv_istore_n (lv' := [(1, .int (0 : Int32)), (0, .ref (Z.2.2 0 0))]) hx hb dX6_areBodiesSound_1 rfl hl (by decide) rfl (fun ls hl => ?_)
  obtain ⟨k1, hk1, hk⟩ := gn hk
  have ex1 : ∀ (X2 : SS) (H : Heap) (locs : List Loc) (ls : Array Slot), k1 X2 = some (Xz, r) → wP Z (X2, M, O) H → va_S (wA Z s.heap.size) s.heap H locs → lv_has ls 3 [] → W p l e (headSpec ws_X6_areBodiesSound rm_X6_areBodiesSound).room s m args below meth c H locs 0 0 (vx_MQ below (cQi Z (Xz, M, O) (.inl r) s.heap.size) (cX Z (Xz, M, O) (.inl r : Int32 ⊕ String) s.heap.size) args s 0 0 (wA Z s.heap.size)) (F0 m 59 ls []) := by
    intro X2 H locs ls hk hP hS hl
    subst hk1
    refine lv_iconst (v := (1 : Int32)) hx hb dX6_areBodiesSound_59 (by decide) ?_
    cases (show some _ = some _ from hk)
    exact we_z hx hb hr hlocks (show okz (1 : Int32) by unfold okz; decide).1 hP rfl hS dX6_areBodiesSound_60 (by decide) (by decide)
  have lp1 : ∀ (n : Nat) (v3 : Int32) (X4 : SS) (H : Heap) (locs : List Loc) (ls : Array Slot), f_X6_areBodiesSound_L2  n v3 X4 k1 = some (Xz, r) → wP Z (X4, M, O) H → va_S (wA Z s.heap.size) s.heap H locs → lv_has ls 3 [(1, .int v3), (0, .ref (Z.2.2 0 0))] → W p l e (headSpec ws_X6_areBodiesSound rm_X6_areBodiesSound).room s m args below meth c H locs 0 0 (vx_MQ below (cQi Z (Xz, M, O) (.inl r) s.heap.size) (cX Z (Xz, M, O) (.inl r : Int32 ⊕ String) s.heap.size) args s 0 0 (wA Z s.heap.size)) (F0 m 2 ls []) := by
    intro n
    induction n with
    | zero =>
      intro v3 X4 H locs ls hk
      rw [f_X6_areBodiesSound_L2] at hk
      exact nomatch (show none = some _ from hk)
    | succ n ih =>
      intro v3 X4 H locs ls hk hP hS hl
      rw [f_X6_areBodiesSound_L2] at hk
      refine lv_iload_n hx hb dX6_areBodiesSound_2 rfl (lv_at hl 0 rfl) ?_
      refine lv_aload_n hx hb dX6_areBodiesSound_3 rfl (lv_at hl 1 rfl) ?_
      refine gf_RX6_65 hx hb hts hown hK hP (by decide) dX6_areBodiesSound_4 ?_
      refine lv_icmp_ge (tgt := 59) hx hb dX6_areBodiesSound_7 (by decide) (fun cz5 => ?_) (fun cz5 => ?_)
      · have hk := it_t cz5 hk
        exact ex1 X4 _ _ _ hk hP hS (lv_sub hl [] rfl)
      · have hk := it_f cz5 hk
        refine lv_aload_n hx hb dX6_areBodiesSound_10 rfl (lv_at hl 1 rfl) ?_
        refine gf_RX6_37 hx hb hts hown hK hP (by decide) dX6_areBodiesSound_11 ?_
        refine lv_iload_n hx hb dX6_areBodiesSound_14 rfl (lv_at hl 0 rfl) ?_
        obtain ⟨hg6, hk⟩ := gd_s hk
        refine wa_aaload_23 hx hb hK hP (by decide) hg6 dX6_areBodiesSound_15 ?_
        refine lv_astore_n (lv' := [(2, .ref (Z.2.2 12 (v3).toNatClampNeg)), (1, .int v3), (0, .ref (Z.2.2 0 0))]) hx hb dX6_areBodiesSound_16 rfl hl (by decide) rfl (fun ls hl => ?_)
        refine lv_aload_n hx hb dX6_areBodiesSound_17 rfl (lv_at hl 0 rfl) ?_
        refine gf_RX6_252 hx hb hts hown hK hP (vp_lt hg6) dX6_areBodiesSound_18 ?_
        refine lv_if_eq (tgt := 53) hx hb dX6_areBodiesSound_21 (by decide) (fun cz7 => ?_) (fun cz7 => ?_)
        · have hk := it_t cz7 hk
          refine lv_iinc (v := (v3 + (1 : Int32))) (lv' := [(1, .int (v3 + (1 : Int32))), (2, .ref (Z.2.2 12 (v3).toNatClampNeg)), (0, .ref (Z.2.2 0 0))]) hx hb dX6_areBodiesSound_53 hl (k := 1) rfl rfl (by decide) rfl (fun ls hl => ?_)
          refine lv_goto (tgt := 2) hx hb dX6_areBodiesSound_56 (by decide) ?_
          exact ih (v3 + (1 : Int32)) X4 _ _ _ hk hP hS (lv_sub hl [0, 2] rfl)
        · have hk := it_f cz7 hk
          refine lv_aload_n hx hb dX6_areBodiesSound_24 rfl (lv_at hl 0 rfl) ?_
          refine gf_RX6_255 hx hb hts hown hK hP (vp_lt hg6) dX6_areBodiesSound_25 ?_
          obtain ⟨v8, hf9, hk⟩ := b0_s hk
          refine wc_lV0 (rest := []) (As := []) ⟨hx, hb, hml, hown, hts⟩ (fun sz => k_X3_sumOfAll l hfl Z hZ X4 M O ((v3).toNatClampNeg + 1) (lt_B (vp_lt hg6)) v8 hf9 sz) (cw_RX6_461 (args := args) (s := s) hts (Nat.le_of_ble_eq_true rfl) (Nat.le_of_ble_eq_true rfl)) hE hP hK hS (rv_1 hK hP (lt_B (vp_lt hg6))) rfl hl.1 rfl (Nat.le_of_ble_eq_true rfl) dX6_areBodiesSound_28 ⟨Nat.le_of_ble_eq_true rfl, Nat.le_of_ble_eq_true rfl⟩ (fun H locs hP hS => ?_)
          refine lv_aload_n hx hb dX6_areBodiesSound_31 rfl (lv_at hl 0 rfl) ?_
          refine gf_RX6_242 hx hb hts hown hK hP (vp_lt hg6) dX6_areBodiesSound_32 ?_
          refine W.lcmp hx hb dX6_areBodiesSound_35 ?_
          refine lv_if_ne (tgt := 51) hx hb dX6_areBodiesSound_36 (by decide) (fun cz10 => ?_) (fun cz10 => ?_)
          · have hk := it_f cz10 hk
            refine lv_iconst (v := (0 : Int32)) hx hb dX6_areBodiesSound_51 (by decide) ?_
            cases (show some _ = some _ from hk)
            exact we_z hx hb hr hlocks (show okz (0 : Int32) by unfold okz; decide).1 hP rfl hS dX6_areBodiesSound_52 (by decide) (by decide)
          · have hk := it_t cz10 hk
            refine lv_aload_n hx hb dX6_areBodiesSound_39 rfl (lv_at hl 0 rfl) ?_
            refine gf_RX6_238 hx hb hts hown hK hP (vp_lt hg6) dX6_areBodiesSound_40 ?_
            refine lv_aload_n hx hb dX6_areBodiesSound_43 rfl (lv_at hl 2 rfl) ?_
            refine lv_aload_n hx hb dX6_areBodiesSound_44 rfl (lv_at hl 0 rfl) ?_
            obtain ⟨X12, v11, hf13, hk⟩ := b1_s hk
            refine wc_iV0 (rest := [.int (X4.1 12 (v3).toNatClampNeg 11)]) (As := [.ref (Z.2.2 12 (v3).toNatClampNeg)]) ⟨hx, hb, hml, hown, hts⟩ (fun sz => k_X6_verdictOn l hfl Z hZ X4 M O (v3).toNatClampNeg (vp_lt hg6) X12 v11 hf13 sz) (cw_RX6_424 (args := args) (s := s) hts (Nat.le_of_ble_eq_true rfl) (Nat.le_of_ble_eq_true rfl)) hE hP hK hS (rv_0 hK hP (by decide)) rfl hl.1 rfl (Nat.le_of_ble_eq_true rfl) dX6_areBodiesSound_45 ⟨Nat.le_of_ble_eq_true rfl, Nat.le_of_ble_eq_true rfl⟩ (fun H locs hP hS => ?_)
            refine lv_icmp_eq (tgt := 53) hx hb dX6_areBodiesSound_48 (by decide) (fun cz14 => ?_) (fun cz14 => ?_)
            · have hk := it_t cz14 hk
              refine lv_iinc (v := (v3 + (1 : Int32))) (lv' := [(1, .int (v3 + (1 : Int32))), (2, .ref (Z.2.2 12 (v3).toNatClampNeg)), (0, .ref (Z.2.2 0 0))]) hx hb dX6_areBodiesSound_53 hl (k := 1) rfl rfl (by decide) rfl (fun ls hl => ?_)
              refine lv_goto (tgt := 2) hx hb dX6_areBodiesSound_56 (by decide) ?_
              exact ih (v3 + (1 : Int32)) X12 _ _ _ hk hP hS (lv_sub hl [0, 2] rfl)
            · have hk := it_f cz14 hk
              refine lv_iconst (v := (0 : Int32)) hx hb dX6_areBodiesSound_51 (by decide) ?_
              cases (show some _ = some _ from hk)
              exact we_z hx hb hr hlocks (show okz (0 : Int32) by unfold okz; decide).1 hP rfl hS dX6_areBodiesSound_52 (by decide) (by decide)
  exact lp1 1000 (0 : Int32) X _ _ _ hk hP hS (lv_sub hl [0, 1] rfl)
set_option maxHeartbeats 4000000 in
set_option maxRecDepth 100000 in
theorem k_X6_beltFromBehind (l : Launch) (hfl : l.stackTraces = false) (Z : ZT) (hZ : wD Z) (X M O : SS) (p0 : Int32) (Xz : SS) (r : Int32) (hf : f_X6_beltFromBehind X p0 = some (Xz, r)) (sz : Nat) : vx_Met l yX6_beltFromBehind ws_X6_beltFromBehind rm_X6_beltFromBehind (va_Pc [.ref (Z.2.2 0 0), .int p0] (cP Z (X, M, O) sz)) (cQi Z (Xz, M, O) (.inl r) sz) (cX Z (Xz, M, O) (.inl r : Int32 ⊕ String) sz) 0 0 (wA Z sz) := by
  refine vx_ofW (cc := cX6_beltFromBehind) (maxL := 5) (ret := (some .int)) (by decide) rfl ?_
  intro p e s m args below meth c s₁ B hml htab hv
  obtain ⟨hargs, hsz, hE, hP, hK⟩ := hv
  have hx := B.exec
  have hb := B.bytes
  have hr := B.returns
  have hts0 := atoms_spec (ws := ws_X6_beltFromBehind) B.pre
  have hts : ∀ w ∈ lw_all, w.before args s = true := fun w h => hts0 w (List.mem_cons_of_mem _ h)
  have hown : s.vm.findClass RX6 = some m.cls := findClass_of_methodNamed B.named
  have hlocks := B.notSynchronized
  have hout9 : ∀ (pc9 : Nat), ∀ x ∈ c.exceptionTable.toList, covers x pc9 = false := fun _ x hx9 => (htab x hx9).elim
  subst hsz
  have hS : va_S (wA Z s.heap.size) s.heap s.heap [] := va_S.rf
  have hl := lv_entry ([.ref (Z.2.2 0 0), .int p0]) (n := 5) (Nat.le_of_ble_eq_true rfl)
  have hen : entryFrame m args 5 = entryFrame m ([.ref (Z.2.2 0 0), .int p0] : List Value).toArray 5 := by rw [hargs]
  rw [hen, lg_entry_eq]
  generalize (lg_sl ([.ref (Z.2.2 0 0), .int p0]) ++ List.replicate (5 - (lg_sl ([.ref (Z.2.2 0 0), .int p0])).length) Slot.unset).toArray = ls at hl ⊢
  have hl : lv_has ls 5 [(0, .ref (Z.2.2 0 0)), (1, .int p0)] := hl
  have hk := hf
  unfold f_X6_beltFromBehind at hk
  refine lv_aload_n hx hb dX6_beltFromBehind_0 rfl (lv_at hl 0 rfl) ?_
  obtain ⟨X2, v1, hf3, hk⟩ := b1_s hk
  refine wc_vV0 (rest := []) (As := []) ⟨hx, hb, hml, hown, hts⟩ (fun sz => k_X6_takeNone l hfl Z hZ X M O X2 v1 hf3 sz) (cw_RX6_454 (args := args) (s := s) hts (Nat.le_of_ble_eq_true rfl) (Nat.le_of_ble_eq_true rfl)) hE hP hK hS (rv_0 hK hP (by decide)) rfl hl.1 rfl (Nat.le_of_ble_eq_true rfl) dX6_beltFromBehind_1 ⟨Nat.le_of_ble_eq_true rfl, Nat.le_of_ble_eq_true rfl⟩ (fun H locs hP hS => ?_)
  refine lv_aload_n hx hb dX6_beltFromBehind_4 rfl (lv_at hl 0 rfl) ?_
  refine gf_RX6_65 hx hb hts hown hK hP (by decide) dX6_beltFromBehind_5 ?_
  refine lv_iconst (v := (1 : Int32)) hx hb dX6_beltFromBehind_8 (by decide) ?_
  refine lv_isub hx hb dX6_beltFromBehind_9 ?_
  obtain ⟨v4, ev4, hk⟩ := lq_s hk
  refine W.eq (g2 := F0 m 10 ls [.int v4]) (by rw [ev4]) ?_
  refine lv_istore_n (lv' := [(2, .int v4), (0, .ref (Z.2.2 0 0)), (1, .int p0)]) hx hb dX6_beltFromBehind_10 rfl hl (by decide) rfl (fun ls hl => ?_)
  obtain ⟨k5, hk5, hk⟩ := gn hk
  have ex5 : ∀ (X6 : SS) (H : Heap) (locs : List Loc) (ls : Array Slot), k5 X6 = some (Xz, r) → wP Z (X6, M, O) H → va_S (wA Z s.heap.size) s.heap H locs → lv_has ls 5 [(0, .ref (Z.2.2 0 0))] → W p l e (headSpec ws_X6_beltFromBehind rm_X6_beltFromBehind).room s m args below meth c H locs 0 0 (vx_MQ below (cQi Z (Xz, M, O) (.inl r) s.heap.size) (cX Z (Xz, M, O) (.inl r : Int32 ⊕ String) s.heap.size) args s 0 0 (wA Z s.heap.size)) (F0 m 84 ls []) := by
    intro X6 H locs ls hk hP hS hl
    subst hk5
    refine lv_aload_n hx hb dX6_beltFromBehind_84 rfl (lv_at hl 0 rfl) ?_
    obtain ⟨v9, hf10, hk⟩ := b0_s hk
    refine wc_iV0 (rest := []) (As := []) ⟨hx, hb, hml, hown, hts⟩ (fun sz => k_X6_takenBelt l hfl Z hZ X6 M O v9 hf10 sz) (cw_RX6_451 (args := args) (s := s) hts (Nat.le_of_ble_eq_true rfl) (Nat.le_of_ble_eq_true rfl)) hE hP hK hS (rv_0 hK hP (by decide)) rfl hl.1 rfl (Nat.le_of_ble_eq_true rfl) dX6_beltFromBehind_85 ⟨Nat.le_of_ble_eq_true rfl, Nat.le_of_ble_eq_true rfl⟩ (fun H locs hP hS => ?_)
    cases (show some _ = some _ from hk)
    exact we_i hx hb hr hlocks hP rfl hS dX6_beltFromBehind_88 (by decide) (by decide)
  have lp5 : ∀ (n : Nat) (v7 : Int32) (X8 : SS) (H : Heap) (locs : List Loc) (ls : Array Slot), f_X6_beltFromBehind_L11 p0 n v7 X8 k5 = some (Xz, r) → wP Z (X8, M, O) H → va_S (wA Z s.heap.size) s.heap H locs → lv_has ls 5 [(2, .int v7), (0, .ref (Z.2.2 0 0)), (1, .int p0)] → W p l e (headSpec ws_X6_beltFromBehind rm_X6_beltFromBehind).room s m args below meth c H locs 0 0 (vx_MQ below (cQi Z (Xz, M, O) (.inl r) s.heap.size) (cX Z (Xz, M, O) (.inl r : Int32 ⊕ String) s.heap.size) args s 0 0 (wA Z s.heap.size)) (F0 m 11 ls []) := by
    intro n
    induction n with
    | zero =>
      intro v7 X8 H locs ls hk
      rw [f_X6_beltFromBehind_L11] at hk
      exact nomatch (show none = some _ from hk)
    | succ n ih =>
      intro v7 X8 H locs ls hk hP hS hl
      rw [f_X6_beltFromBehind_L11] at hk
      refine lv_iload_n hx hb dX6_beltFromBehind_11 rfl (lv_at hl 0 rfl) ?_
      refine lv_if_lt (tgt := 84) hx hb dX6_beltFromBehind_12 (by decide) (fun cz11 => ?_) (fun cz11 => ?_)
      · have hk := it_t cz11 hk
        exact ex5 X8 _ _ _ hk hP hS (lv_sub hl [1] rfl)
      · have hk := it_f cz11 hk
        refine lv_aload_n hx hb dX6_beltFromBehind_15 rfl (lv_at hl 1 rfl) ?_
        refine gf_RX6_37 hx hb hts hown hK hP (by decide) dX6_beltFromBehind_16 ?_
        refine lv_iload_n hx hb dX6_beltFromBehind_19 rfl (lv_at hl 0 rfl) ?_
        obtain ⟨hg12, hk⟩ := gd_s hk
        refine wa_aaload_23 hx hb hK hP (by decide) hg12 dX6_beltFromBehind_20 ?_
        refine lv_astore_n (lv' := [(3, .ref (Z.2.2 12 (v7).toNatClampNeg)), (2, .int v7), (0, .ref (Z.2.2 0 0)), (1, .int p0)]) hx hb dX6_beltFromBehind_21 rfl hl (by decide) rfl (fun ls hl => ?_)
        refine lv_aload_n hx hb dX6_beltFromBehind_22 rfl (lv_at hl 0 rfl) ?_
        refine gf_RX6_223 hx hb hts hown hK hP (vp_lt hg12) dX6_beltFromBehind_23 ?_
        refine lv_iload_n hx hb dX6_beltFromBehind_26 rfl (lv_at hl 3 rfl) ?_
        refine lv_icmp_ne (tgt := 78) hx hb dX6_beltFromBehind_27 (by decide) (fun cz13 => ?_) (fun cz13 => ?_)
        · have hk := it_f cz13 hk
          refine lv_iinc (v := (v7 + ((-1) : Int32))) (lv' := [(2, .int (v7 + ((-1) : Int32))), (3, .ref (Z.2.2 12 (v7).toNatClampNeg)), (0, .ref (Z.2.2 0 0)), (1, .int p0)]) hx hb dX6_beltFromBehind_78 hl (k := 1) rfl rfl (by decide) rfl (fun ls hl => ?_)
          refine lv_goto (tgt := 11) hx hb dX6_beltFromBehind_81 (by decide) ?_
          exact ih (v7 + ((-1) : Int32)) X8 _ _ _ hk hP hS (lv_sub hl [0, 2, 3] rfl)
        · have hk := it_t cz13 hk
          refine lv_aload_n hx hb dX6_beltFromBehind_30 rfl (lv_at hl 0 rfl) ?_
          obtain ⟨v14, hf15, hk⟩ := b0_s hk
          refine wc_iV0 (rest := []) (As := []) ⟨hx, hb, hml, hown, hts⟩ (fun sz => k_X5_isCounted l hfl Z hZ X8 M O (v7).toNatClampNeg (vp_lt hg12) v14 hf15 sz) (cw_RX6_390 (args := args) (s := s) hts (Nat.le_of_ble_eq_true rfl) (Nat.le_of_ble_eq_true rfl)) hE hP hK hS (rv_12 hK hP (vp_lt hg12)) rfl hl.1 rfl (Nat.le_of_ble_eq_true rfl) dX6_beltFromBehind_31 ⟨Nat.le_of_ble_eq_true rfl, Nat.le_of_ble_eq_true rfl⟩ (fun H locs hP hS => ?_)
          refine lv_if_eq (tgt := 78) hx hb dX6_beltFromBehind_34 (by decide) (fun cz16 => ?_) (fun cz16 => ?_)
          · have hk := it_t cz16 hk
            refine lv_iinc (v := (v7 + ((-1) : Int32))) (lv' := [(2, .int (v7 + ((-1) : Int32))), (3, .ref (Z.2.2 12 (v7).toNatClampNeg)), (0, .ref (Z.2.2 0 0)), (1, .int p0)]) hx hb dX6_beltFromBehind_78 hl (k := 1) rfl rfl (by decide) rfl (fun ls hl => ?_)
            refine lv_goto (tgt := 11) hx hb dX6_beltFromBehind_81 (by decide) ?_
            exact ih (v7 + ((-1) : Int32)) X8 _ _ _ hk hP hS (lv_sub hl [0, 2, 3] rfl)
          · have hk := it_f cz16 hk
            refine lv_aload_n hx hb dX6_beltFromBehind_37 rfl (lv_at hl 2 rfl) ?_
            refine gf_RX6_45 hx hb hts hown hK hP (by decide) dX6_beltFromBehind_38 ?_
            refine lv_aload_n hx hb dX6_beltFromBehind_41 rfl (lv_at hl 0 rfl) ?_
            refine gf_RX6_226 hx hb hts hown hK hP (vp_lt hg12) dX6_beltFromBehind_42 ?_
            obtain ⟨hg17, hk⟩ := gd_s hk
            refine wa_iaload_25 hx hb hK hP (by decide) hg17 dX6_beltFromBehind_45 ?_
            obtain ⟨v18, ev18, hk⟩ := lq_s hk
            refine W.eq (g2 := F0 m 46 ls [.int v18]) (by rw [ev18]) ?_
            refine lv_istore (lv' := [(4, .int v18), (3, .ref (Z.2.2 12 (v7).toNatClampNeg)), (2, .int v7), (0, .ref (Z.2.2 0 0)), (1, .int p0)]) hx hb dX6_beltFromBehind_46 hl (by decide) rfl (fun ls hl => ?_)
            refine lv_iload hx hb dX6_beltFromBehind_48 (lv_at hl 0 rfl) ?_
            refine lv_iconst (v := ((-1) : Int32)) hx hb dX6_beltFromBehind_50 (by decide) ?_
            refine lv_icmp_eq (tgt := 68) hx hb dX6_beltFromBehind_51 (by decide) (fun cz19 => ?_) (fun cz19 => ?_)
            · have hk := it_t cz19 hk
              refine lv_aload_n hx hb dX6_beltFromBehind_68 rfl (lv_at hl 3 rfl) ?_
              refine gf_RX6_45 hx hb hts hown hK hP (by decide) dX6_beltFromBehind_69 ?_
              refine lv_aload_n hx hb dX6_beltFromBehind_72 rfl (lv_at hl 1 rfl) ?_
              refine gf_RX6_226 hx hb hts hown hK hP (vp_lt hg12) dX6_beltFromBehind_73 ?_
              refine lv_iload_n hx hb dX6_beltFromBehind_76 rfl (lv_at hl 2 rfl) ?_
              obtain ⟨hg20, hk⟩ := gd_s hk
              obtain ⟨X21, eX21, hk⟩ := lq_s hk
              refine wa_iastore_25 hx hb hZ hK hP hS (by decide) hg20 dX6_beltFromBehind_77 (fun H locs hP hS => ?_)
              rw [← eX21] at hP
              refine lv_iinc (v := (v7 + ((-1) : Int32))) (lv' := [(2, .int (v7 + ((-1) : Int32))), (4, .int v18), (3, .ref (Z.2.2 12 (v7).toNatClampNeg)), (0, .ref (Z.2.2 0 0)), (1, .int p0)]) hx hb dX6_beltFromBehind_78 hl (k := 2) rfl rfl (by decide) rfl (fun ls hl => ?_)
              refine lv_goto (tgt := 11) hx hb dX6_beltFromBehind_81 (by decide) ?_
              exact ih (v7 + ((-1) : Int32)) X21 _ _ _ hk hP hS (lv_sub hl [0, 3, 4] rfl)
            · have hk := it_f cz19 hk
              refine lv_aload_n hx hb dX6_beltFromBehind_54 rfl (lv_at hl 3 rfl) ?_
              refine gf_RX6_37 hx hb hts hown hK hP (by decide) dX6_beltFromBehind_55 ?_
              refine lv_iload hx hb dX6_beltFromBehind_58 (lv_at hl 0 rfl) ?_
              obtain ⟨hg22, hk⟩ := gd_s hk
              refine wa_aaload_23 hx hb hK hP (by decide) hg22 dX6_beltFromBehind_60 ?_
              refine lv_aload_n hx hb dX6_beltFromBehind_61 rfl (lv_at hl 1 rfl) ?_
              obtain ⟨v23, hf24, hk⟩ := b0_s hk
              refine wc_iV0 (rest := []) (As := [.ref (Z.2.2 12 (v7).toNatClampNeg)]) ⟨hx, hb, hml, hown, hts⟩ (fun sz => k_X5_hasGreaterStyleThan l hfl Z hZ X8 M O (v18).toNatClampNeg (v7).toNatClampNeg (vp_lt hg22) (vp_lt hg12) v23 hf24 sz) (cw_RX6_457 (args := args) (s := s) hts (Nat.le_of_ble_eq_true rfl) (Nat.le_of_ble_eq_true rfl)) hE hP hK hS (rv_12 hK hP (vp_lt hg22)) rfl hl.1 rfl (Nat.le_of_ble_eq_true rfl) dX6_beltFromBehind_62 ⟨Nat.le_of_ble_eq_true rfl, Nat.le_of_ble_eq_true rfl⟩ (fun H locs hP hS => ?_)
              refine lv_if_ne (tgt := 78) hx hb dX6_beltFromBehind_65 (by decide) (fun cz25 => ?_) (fun cz25 => ?_)
              · have hk := it_f cz25 hk
                refine lv_iinc (v := (v7 + ((-1) : Int32))) (lv' := [(2, .int (v7 + ((-1) : Int32))), (4, .int v18), (3, .ref (Z.2.2 12 (v7).toNatClampNeg)), (0, .ref (Z.2.2 0 0)), (1, .int p0)]) hx hb dX6_beltFromBehind_78 hl (k := 2) rfl rfl (by decide) rfl (fun ls hl => ?_)
                refine lv_goto (tgt := 11) hx hb dX6_beltFromBehind_81 (by decide) ?_
                exact ih (v7 + ((-1) : Int32)) X8 _ _ _ hk hP hS (lv_sub hl [0, 3, 4] rfl)
              · have hk := it_t cz25 hk
                refine lv_aload_n hx hb dX6_beltFromBehind_68 rfl (lv_at hl 3 rfl) ?_
                refine gf_RX6_45 hx hb hts hown hK hP (by decide) dX6_beltFromBehind_69 ?_
                refine lv_aload_n hx hb dX6_beltFromBehind_72 rfl (lv_at hl 1 rfl) ?_
                refine gf_RX6_226 hx hb hts hown hK hP (vp_lt hg12) dX6_beltFromBehind_73 ?_
                refine lv_iload_n hx hb dX6_beltFromBehind_76 rfl (lv_at hl 2 rfl) ?_
                obtain ⟨hg26, hk⟩ := gd_s hk
                obtain ⟨X27, eX27, hk⟩ := lq_s hk
                refine wa_iastore_25 hx hb hZ hK hP hS (by decide) hg26 dX6_beltFromBehind_77 (fun H locs hP hS => ?_)
                rw [← eX27] at hP
                refine lv_iinc (v := (v7 + ((-1) : Int32))) (lv' := [(2, .int (v7 + ((-1) : Int32))), (4, .int v18), (3, .ref (Z.2.2 12 (v7).toNatClampNeg)), (0, .ref (Z.2.2 0 0)), (1, .int p0)]) hx hb dX6_beltFromBehind_78 hl (k := 2) rfl rfl (by decide) rfl (fun ls hl => ?_)
                refine lv_goto (tgt := 11) hx hb dX6_beltFromBehind_81 (by decide) ?_
                exact ih (v7 + ((-1) : Int32)) X27 _ _ _ hk hP hS (lv_sub hl [0, 3, 4] rfl)
  exact lp5 1000 v4 X2 _ _ _ hk hP hS (lv_sub hl [0, 1, 2] rfl)
set_option maxHeartbeats 4000000 in
set_option maxRecDepth 100000 in
theorem k_X6_areBeltsSound (l : Launch) (hfl : l.stackTraces = false) (Z : ZT) (hZ : wD Z) (X M O : SS) (Xz : SS) (r : Int32) (hf : f_X6_areBeltsSound X = some (Xz, r)) (sz : Nat) : vx_Met l yX6_areBeltsSound ws_X6_areBeltsSound rm_X6_areBeltsSound (va_Pc [.ref (Z.2.2 0 0)] (cP Z (X, M, O) sz)) (cQi Z (Xz, M, O) (.inl r) sz) (cX Z (Xz, M, O) (.inl r : Int32 ⊕ String) sz) 0 0 (wA Z sz) := by
  refine vx_ofW (cc := cX6_areBeltsSound) (maxL := 2) (ret := (some .boolean)) (by decide) rfl ?_
  intro p e s m args below meth c s₁ B hml htab hv
  obtain ⟨hargs, hsz, hE, hP, hK⟩ := hv
  have hx := B.exec
  have hb := B.bytes
  have hr := B.returns
  have hts0 := atoms_spec (ws := ws_X6_areBeltsSound) B.pre
  have hts : ∀ w ∈ lw_all, w.before args s = true := fun w h => hts0 w (List.mem_cons_of_mem _ h)
  have hown : s.vm.findClass RX6 = some m.cls := findClass_of_methodNamed B.named
  have hlocks := B.notSynchronized
  have hout9 : ∀ (pc9 : Nat), ∀ x ∈ c.exceptionTable.toList, covers x pc9 = false := fun _ x hx9 => (htab x hx9).elim
  subst hsz
  have hS : va_S (wA Z s.heap.size) s.heap s.heap [] := va_S.rf
  have hl := lv_entry ([.ref (Z.2.2 0 0)]) (n := 2) (Nat.le_of_ble_eq_true rfl)
  have hen : entryFrame m args 2 = entryFrame m ([.ref (Z.2.2 0 0)] : List Value).toArray 2 := by rw [hargs]
  rw [hen, lg_entry_eq]
  generalize (lg_sl ([.ref (Z.2.2 0 0)]) ++ List.replicate (2 - (lg_sl ([.ref (Z.2.2 0 0)])).length) Slot.unset).toArray = ls at hl ⊢
  have hl : lv_has ls 2 [(0, .ref (Z.2.2 0 0))] := hl
  have hk := hf
  unfold f_X6_areBeltsSound at hk
  refine lv_iconst (v := (0 : Int32)) hx hb dX6_areBeltsSound_0 (by decide) ?_
  refine lv_istore_n (lv' := [(1, .int (0 : Int32)), (0, .ref (Z.2.2 0 0))]) hx hb dX6_areBeltsSound_1 rfl hl (by decide) rfl (fun ls hl => ?_)
  obtain ⟨k1, hk1, hk⟩ := gn hk
  have ex1 : ∀ (H : Heap) (locs : List Loc) (ls : Array Slot), k1 () = some (Xz, r) → wP Z (X, M, O) H → va_S (wA Z s.heap.size) s.heap H locs → lv_has ls 2 [(0, .ref (Z.2.2 0 0))] → W p l e (headSpec ws_X6_areBeltsSound rm_X6_areBeltsSound).room s m args below meth c H locs 0 0 (vx_MQ below (cQi Z (Xz, M, O) (.inl r) s.heap.size) (cX Z (Xz, M, O) (.inl r : Int32 ⊕ String) s.heap.size) args s 0 0 (wA Z s.heap.size)) (F0 m 30 ls []) := by
    intro  H locs ls hk hP hS hl
    subst hk1
    refine lv_iconst (v := (0 : Int32)) hx hb dX6_areBeltsSound_30 (by decide) ?_
    refine lv_istore_n (lv' := [(1, .int (0 : Int32)), (0, .ref (Z.2.2 0 0))]) hx hb dX6_areBeltsSound_31 rfl hl (by decide) rfl (fun ls hl => ?_)
    obtain ⟨k3, hk3, hk⟩ := gn hk
    have ex3 : ∀ (X4 : SS) (H : Heap) (locs : List Loc) (ls : Array Slot), k3 X4 = some (Xz, r) → wP Z (X4, M, O) H → va_S (wA Z s.heap.size) s.heap H locs → lv_has ls 2 [] → W p l e (headSpec ws_X6_areBeltsSound rm_X6_areBeltsSound).room s m args below meth c H locs 0 0 (vx_MQ below (cQi Z (Xz, M, O) (.inl r) s.heap.size) (cX Z (Xz, M, O) (.inl r : Int32 ⊕ String) s.heap.size) args s 0 0 (wA Z s.heap.size)) (F0 m 61 ls []) := by
      intro X4 H locs ls hk hP hS hl
      subst hk3
      refine lv_iconst (v := (1 : Int32)) hx hb dX6_areBeltsSound_61 (by decide) ?_
      cases (show some _ = some _ from hk)
      exact we_z hx hb hr hlocks (show okz (1 : Int32) by unfold okz; decide).1 hP rfl hS dX6_areBeltsSound_62 (by decide) (by decide)
    have lp3 : ∀ (n : Nat) (v5 : Int32) (X6 : SS) (H : Heap) (locs : List Loc) (ls : Array Slot), f_X6_areBeltsSound_L32  n v5 X6 k3 = some (Xz, r) → wP Z (X6, M, O) H → va_S (wA Z s.heap.size) s.heap H locs → lv_has ls 2 [(1, .int v5), (0, .ref (Z.2.2 0 0))] → W p l e (headSpec ws_X6_areBeltsSound rm_X6_areBeltsSound).room s m args below meth c H locs 0 0 (vx_MQ below (cQi Z (Xz, M, O) (.inl r) s.heap.size) (cX Z (Xz, M, O) (.inl r : Int32 ⊕ String) s.heap.size) args s 0 0 (wA Z s.heap.size)) (F0 m 32 ls []) := by
      intro n
      induction n with
      | zero =>
        intro v5 X6 H locs ls hk
        rw [f_X6_areBeltsSound_L32] at hk
        exact nomatch (show none = some _ from hk)
      | succ n ih =>
        intro v5 X6 H locs ls hk hP hS hl
        rw [f_X6_areBeltsSound_L32] at hk
        refine lv_iload_n hx hb dX6_areBeltsSound_32 rfl (lv_at hl 0 rfl) ?_
        refine lv_aload_n hx hb dX6_areBeltsSound_33 rfl (lv_at hl 1 rfl) ?_
        refine gf_RX6_62 hx hb hts hown hK hP (by decide) dX6_areBeltsSound_34 ?_
        refine lv_icmp_ge (tgt := 61) hx hb dX6_areBeltsSound_37 (by decide) (fun cz7 => ?_) (fun cz7 => ?_)
        · have hk := it_t cz7 hk
          exact ex3 X6 _ _ _ hk hP hS (lv_sub hl [] rfl)
        · have hk := it_f cz7 hk
          refine lv_aload_n hx hb dX6_areBeltsSound_40 rfl (lv_at hl 1 rfl) ?_
          refine lv_iload_n hx hb dX6_areBeltsSound_41 rfl (lv_at hl 0 rfl) ?_
          obtain ⟨X9, v8, hf10, hk⟩ := b1_s hk
          refine wc_iV0 (rest := []) (As := [.int v5]) ⟨hx, hb, hml, hown, hts⟩ (fun sz => k_X6_beltOf l hfl Z hZ X6 M O v5 X9 v8 hf10 sz) (cw_RX6_295 (args := args) (s := s) hts (Nat.le_of_ble_eq_true rfl) (Nat.le_of_ble_eq_true rfl)) hE hP hK hS (rv_0 hK hP (by decide)) rfl hl.1 rfl (Nat.le_of_ble_eq_true rfl) dX6_areBeltsSound_42 ⟨Nat.le_of_ble_eq_true rfl, Nat.le_of_ble_eq_true rfl⟩ (fun H locs hP hS => ?_)
          refine lv_aload_n hx hb dX6_areBeltsSound_45 rfl (lv_at hl 1 rfl) ?_
          refine lv_iload_n hx hb dX6_areBeltsSound_46 rfl (lv_at hl 0 rfl) ?_
          obtain ⟨X12, v11, hf13, hk⟩ := b1_s hk
          refine wc_iV0 (rest := [.int v8]) (As := [.int v5]) ⟨hx, hb, hml, hown, hts⟩ (fun sz => k_X6_beltFromBehind l hfl Z hZ X9 M O v5 X12 v11 hf13 sz) (cw_RX6_472 (args := args) (s := s) hts (Nat.le_of_ble_eq_true rfl) (Nat.le_of_ble_eq_true rfl)) hE hP hK hS (rv_0 hK hP (by decide)) rfl hl.1 rfl (Nat.le_of_ble_eq_true rfl) dX6_areBeltsSound_47 ⟨Nat.le_of_ble_eq_true rfl, Nat.le_of_ble_eq_true rfl⟩ (fun H locs hP hS => ?_)
          refine lv_icmp_eq (tgt := 55) hx hb dX6_areBeltsSound_50 (by decide) (fun cz14 => ?_) (fun cz14 => ?_)
          · have hk := it_t cz14 hk
            refine lv_iinc (v := (v5 + (1 : Int32))) (lv' := [(1, .int (v5 + (1 : Int32))), (0, .ref (Z.2.2 0 0))]) hx hb dX6_areBeltsSound_55 hl (k := 0) rfl rfl (by decide) rfl (fun ls hl => ?_)
            refine lv_goto (tgt := 32) hx hb dX6_areBeltsSound_58 (by decide) ?_
            exact ih (v5 + (1 : Int32)) X12 _ _ _ hk hP hS (lv_sub hl [0, 1] rfl)
          · have hk := it_f cz14 hk
            refine lv_iconst (v := (0 : Int32)) hx hb dX6_areBeltsSound_53 (by decide) ?_
            cases (show some _ = some _ from hk)
            exact we_z hx hb hr hlocks (show okz (0 : Int32) by unfold okz; decide).1 hP rfl hS dX6_areBeltsSound_54 (by decide) (by decide)
    exact lp3 1000 (0 : Int32) X _ _ _ hk hP hS (lv_sub hl [0, 1] rfl)
  have lp1 : ∀ (n : Nat) (v2 : Int32) (H : Heap) (locs : List Loc) (ls : Array Slot), f_X6_areBeltsSound_L2 X n v2 k1 = some (Xz, r) → wP Z (X, M, O) H → va_S (wA Z s.heap.size) s.heap H locs → lv_has ls 2 [(1, .int v2), (0, .ref (Z.2.2 0 0))] → W p l e (headSpec ws_X6_areBeltsSound rm_X6_areBeltsSound).room s m args below meth c H locs 0 0 (vx_MQ below (cQi Z (Xz, M, O) (.inl r) s.heap.size) (cX Z (Xz, M, O) (.inl r : Int32 ⊕ String) s.heap.size) args s 0 0 (wA Z s.heap.size)) (F0 m 2 ls []) := by
    intro n
    induction n with
    | zero =>
      intro v2 H locs ls hk
      rw [f_X6_areBeltsSound_L2] at hk
      exact nomatch (show none = some _ from hk)
    | succ n ih =>
      intro v2 H locs ls hk hP hS hl
      rw [f_X6_areBeltsSound_L2] at hk
      refine lv_iload_n hx hb dX6_areBeltsSound_2 rfl (lv_at hl 0 rfl) ?_
      refine lv_aload_n hx hb dX6_areBeltsSound_3 rfl (lv_at hl 1 rfl) ?_
      refine gf_RX6_65 hx hb hts hown hK hP (by decide) dX6_areBeltsSound_4 ?_
      refine lv_icmp_ge (tgt := 30) hx hb dX6_areBeltsSound_7 (by decide) (fun cz15 => ?_) (fun cz15 => ?_)
      · have hk := it_t cz15 hk
        exact ex1 _ _ _ hk hP hS (lv_sub hl [1] rfl)
      · have hk := it_f cz15 hk
        refine lv_aload_n hx hb dX6_areBeltsSound_10 rfl (lv_at hl 1 rfl) ?_
        refine gf_RX6_37 hx hb hts hown hK hP (by decide) dX6_areBeltsSound_11 ?_
        refine lv_iload_n hx hb dX6_areBeltsSound_14 rfl (lv_at hl 0 rfl) ?_
        obtain ⟨hg16, hk⟩ := gd_s hk
        refine wa_aaload_23 hx hb hK hP (by decide) hg16 dX6_areBeltsSound_15 ?_
        obtain ⟨v17, hf18, hk⟩ := b0_s hk
        refine wc_iV0 (rest := []) (As := []) ⟨hx, hb, hml, hown, hts⟩ (fun sz => k_X5_areSumsOfVotes l hfl Z hZ X M O (v2).toNatClampNeg (vp_lt hg16) v17 hf18 sz) (cw_RX6_469 (args := args) (s := s) hts (Nat.le_of_ble_eq_true rfl) (Nat.le_of_ble_eq_true rfl)) hE hP hK hS (rv_12 hK hP (vp_lt hg16)) rfl hl.1 rfl (Nat.le_of_ble_eq_true rfl) dX6_areBeltsSound_16 ⟨Nat.le_of_ble_eq_true rfl, Nat.le_of_ble_eq_true rfl⟩ (fun H locs hP hS => ?_)
        refine lv_if_ne (tgt := 24) hx hb dX6_areBeltsSound_19 (by decide) (fun cz19 => ?_) (fun cz19 => ?_)
        · have hk := it_f cz19 hk
          refine lv_iinc (v := (v2 + (1 : Int32))) (lv' := [(1, .int (v2 + (1 : Int32))), (0, .ref (Z.2.2 0 0))]) hx hb dX6_areBeltsSound_24 hl (k := 0) rfl rfl (by decide) rfl (fun ls hl => ?_)
          refine lv_goto (tgt := 2) hx hb dX6_areBeltsSound_27 (by decide) ?_
          exact ih (v2 + (1 : Int32)) _ _ _ hk hP hS (lv_sub hl [0, 1] rfl)
        · have hk := it_t cz19 hk
          refine lv_iconst (v := (0 : Int32)) hx hb dX6_areBeltsSound_22 (by decide) ?_
          cases (show some _ = some _ from hk)
          exact we_z hx hb hr hlocks (show okz (0 : Int32) by unfold okz; decide).1 hP rfl hS dX6_areBeltsSound_23 (by decide) (by decide)
  exact lp1 1000 (0 : Int32) _ _ _ hk hP hS (lv_sub hl [0, 1] rfl)
set_option maxHeartbeats 4000000 in
set_option maxRecDepth 100000 in
theorem k_X6_isOpenTwice (l : Launch) (hfl : l.stackTraces = false) (Z : ZT) (hZ : wD Z) (X M O : SS) (p0 : Int32) (r : Int32) (hf : f_X6_isOpenTwice X p0 = some (r)) (sz : Nat) : vx_Met l yX6_isOpenTwice ws_X6_isOpenTwice rm_X6_isOpenTwice (va_Pc [.ref (Z.2.2 0 0), .int p0] (cP Z (X, M, O) sz)) (cQi Z (X, M, O) (.inl r) sz) (cX Z (X, M, O) (.inl r : Int32 ⊕ String) sz) 0 0 (wA Z sz) := by
  refine vx_ofW (cc := cX6_isOpenTwice) (maxL := 3) (ret := (some .boolean)) (by decide) rfl ?_
  intro p e s m args below meth c s₁ B hml htab hv
  obtain ⟨hargs, hsz, hE, hP, hK⟩ := hv
  have hx := B.exec
  have hb := B.bytes
  have hr := B.returns
  have hts0 := atoms_spec (ws := ws_X6_isOpenTwice) B.pre
  have hts : ∀ w ∈ lw_all, w.before args s = true := fun w h => hts0 w (List.mem_cons_of_mem _ h)
  have hown : s.vm.findClass RX6 = some m.cls := findClass_of_methodNamed B.named
  have hlocks := B.notSynchronized
  have hout9 : ∀ (pc9 : Nat), ∀ x ∈ c.exceptionTable.toList, covers x pc9 = false := fun _ x hx9 => (htab x hx9).elim
  subst hsz
  have hS : va_S (wA Z s.heap.size) s.heap s.heap [] := va_S.rf
  have hl := lv_entry ([.ref (Z.2.2 0 0), .int p0]) (n := 3) (Nat.le_of_ble_eq_true rfl)
  have hen : entryFrame m args 3 = entryFrame m ([.ref (Z.2.2 0 0), .int p0] : List Value).toArray 3 := by rw [hargs]
  rw [hen, lg_entry_eq]
  generalize (lg_sl ([.ref (Z.2.2 0 0), .int p0]) ++ List.replicate (3 - (lg_sl ([.ref (Z.2.2 0 0), .int p0])).length) Slot.unset).toArray = ls at hl ⊢
  have hl : lv_has ls 3 [(0, .ref (Z.2.2 0 0)), (1, .int p0)] := hl
  have hk := hf
  unfold f_X6_isOpenTwice at hk
  refine lv_iconst (v := (0 : Int32)) hx hb dX6_isOpenTwice_0 (by decide) ?_
  refine lv_istore_n (lv' := [(2, .int (0 : Int32)), (0, .ref (Z.2.2 0 0)), (1, .int p0)]) hx hb dX6_isOpenTwice_1 rfl hl (by decide) rfl (fun ls hl => ?_)
  obtain ⟨k1, hk1, hk⟩ := gn hk
  have ex1 : ∀ (H : Heap) (locs : List Loc) (ls : Array Slot), k1 () = some (r) → wP Z (X, M, O) H → va_S (wA Z s.heap.size) s.heap H locs → lv_has ls 3 [] → W p l e (headSpec ws_X6_isOpenTwice rm_X6_isOpenTwice).room s m args below meth c H locs 0 0 (vx_MQ below (cQi Z (X, M, O) (.inl r) s.heap.size) (cX Z (X, M, O) (.inl r : Int32 ⊕ String) s.heap.size) args s 0 0 (wA Z s.heap.size)) (F0 m 30 ls []) := by
    intro  H locs ls hk hP hS hl
    subst hk1
    refine lv_iconst (v := (0 : Int32)) hx hb dX6_isOpenTwice_30 (by decide) ?_
    cases (show some _ = some _ from hk)
    exact we_z hx hb hr hlocks (show okz (0 : Int32) by unfold okz; decide).1 hP rfl hS dX6_isOpenTwice_31 (by decide) (by decide)
  have lp1 : ∀ (n : Nat) (v2 : Int32) (H : Heap) (locs : List Loc) (ls : Array Slot), f_X6_isOpenTwice_L2 p0 X n v2 k1 = some (r) → wP Z (X, M, O) H → va_S (wA Z s.heap.size) s.heap H locs → lv_has ls 3 [(2, .int v2), (0, .ref (Z.2.2 0 0)), (1, .int p0)] → W p l e (headSpec ws_X6_isOpenTwice rm_X6_isOpenTwice).room s m args below meth c H locs 0 0 (vx_MQ below (cQi Z (X, M, O) (.inl r) s.heap.size) (cX Z (X, M, O) (.inl r : Int32 ⊕ String) s.heap.size) args s 0 0 (wA Z s.heap.size)) (F0 m 2 ls []) := by
    intro n
    induction n with
    | zero =>
      intro v2 H locs ls hk
      rw [f_X6_isOpenTwice_L2] at hk
      exact nomatch (show none = some _ from hk)
    | succ n ih =>
      intro v2 H locs ls hk hP hS hl
      rw [f_X6_isOpenTwice_L2] at hk
      refine lv_iload_n hx hb dX6_isOpenTwice_2 rfl (lv_at hl 0 rfl) ?_
      refine lv_iload_n hx hb dX6_isOpenTwice_3 rfl (lv_at hl 2 rfl) ?_
      refine lv_icmp_ge (tgt := 30) hx hb dX6_isOpenTwice_4 (by decide) (fun cz3 => ?_) (fun cz3 => ?_)
      · have hk := it_t cz3 hk
        exact ex1 _ _ _ hk hP hS (lv_sub hl [] rfl)
      · have hk := it_f cz3 hk
        refine lv_aload_n hx hb dX6_isOpenTwice_7 rfl (lv_at hl 1 rfl) ?_
        refine gf_RX6_41 hx hb hts hown hK hP (by decide) dX6_isOpenTwice_8 ?_
        refine lv_iload_n hx hb dX6_isOpenTwice_11 rfl (lv_at hl 0 rfl) ?_
        obtain ⟨hg4, hk⟩ := gd_s hk
        refine wa_iaload_24 hx hb hK hP (by decide) hg4 dX6_isOpenTwice_12 ?_
        refine lv_aload_n hx hb dX6_isOpenTwice_13 rfl (lv_at hl 1 rfl) ?_
        refine gf_RX6_41 hx hb hts hown hK hP (by decide) dX6_isOpenTwice_14 ?_
        refine lv_iload_n hx hb dX6_isOpenTwice_17 rfl (lv_at hl 2 rfl) ?_
        obtain ⟨hg5, hk⟩ := gd_s hk
        refine wa_iaload_24 hx hb hK hP (by decide) hg5 dX6_isOpenTwice_18 ?_
        refine lv_icmp_ne (tgt := 24) hx hb dX6_isOpenTwice_19 (by decide) (fun cz6 => ?_) (fun cz6 => ?_)
        · have hk := it_f cz6 hk
          refine lv_iinc (v := (v2 + (1 : Int32))) (lv' := [(2, .int (v2 + (1 : Int32))), (0, .ref (Z.2.2 0 0)), (1, .int p0)]) hx hb dX6_isOpenTwice_24 hl (k := 0) rfl rfl (by decide) rfl (fun ls hl => ?_)
          refine lv_goto (tgt := 2) hx hb dX6_isOpenTwice_27 (by decide) ?_
          exact ih (v2 + (1 : Int32)) _ _ _ hk hP hS (lv_sub hl [0, 1, 2] rfl)
        · have hk := it_t cz6 hk
          refine lv_iconst (v := (1 : Int32)) hx hb dX6_isOpenTwice_22 (by decide) ?_
          cases (show some _ = some _ from hk)
          exact we_z hx hb hr hlocks (show okz (1 : Int32) by unfold okz; decide).1 hP rfl hS dX6_isOpenTwice_23 (by decide) (by decide)
  exact lp1 1000 (0 : Int32) _ _ _ hk hP hS (lv_sub hl [0, 1, 2] rfl)
set_option maxHeartbeats 4000000 in
set_option maxRecDepth 100000 in
theorem k_X6_areChallengesSound (l : Launch) (hfl : l.stackTraces = false) (Z : ZT) (hZ : wD Z) (X M O : SS) (r : Int32) (hf : f_X6_areChallengesSound X = some (r)) (sz : Nat) : vx_Met l yX6_areChallengesSound ws_X6_areChallengesSound rm_X6_areChallengesSound (va_Pc [.ref (Z.2.2 0 0)] (cP Z (X, M, O) sz)) (cQi Z (X, M, O) (.inl r) sz) (cX Z (X, M, O) (.inl r : Int32 ⊕ String) sz) 0 0 (wA Z sz) := by
  refine vx_ofW (cc := cX6_areChallengesSound) (maxL := 3) (ret := (some .boolean)) (by decide) rfl ?_
  intro p e s m args below meth c s₁ B hml htab hv
  obtain ⟨hargs, hsz, hE, hP, hK⟩ := hv
  have hx := B.exec
  have hb := B.bytes
  have hr := B.returns
  have hts0 := atoms_spec (ws := ws_X6_areChallengesSound) B.pre
  have hts : ∀ w ∈ lw_all, w.before args s = true := fun w h => hts0 w (List.mem_cons_of_mem _ h)
  have hown : s.vm.findClass RX6 = some m.cls := findClass_of_methodNamed B.named
  have hlocks := B.notSynchronized
  have hout9 : ∀ (pc9 : Nat), ∀ x ∈ c.exceptionTable.toList, covers x pc9 = false := fun _ x hx9 => (htab x hx9).elim
  subst hsz
  have hS : va_S (wA Z s.heap.size) s.heap s.heap [] := va_S.rf
  have hl := lv_entry ([.ref (Z.2.2 0 0)]) (n := 3) (Nat.le_of_ble_eq_true rfl)
  have hen : entryFrame m args 3 = entryFrame m ([.ref (Z.2.2 0 0)] : List Value).toArray 3 := by rw [hargs]
  rw [hen, lg_entry_eq]
  generalize (lg_sl ([.ref (Z.2.2 0 0)]) ++ List.replicate (3 - (lg_sl ([.ref (Z.2.2 0 0)])).length) Slot.unset).toArray = ls at hl ⊢
  have hl : lv_has ls 3 [(0, .ref (Z.2.2 0 0))] := hl
  have hk := hf
  unfold f_X6_areChallengesSound at hk
  refine lv_iconst (v := (0 : Int32)) hx hb dX6_areChallengesSound_0 (by decide) ?_
  refine lv_istore_n (lv' := [(1, .int (0 : Int32)), (0, .ref (Z.2.2 0 0))]) hx hb dX6_areChallengesSound_1 rfl hl (by decide) rfl (fun ls hl => ?_)
  refine lv_iconst (v := (0 : Int32)) hx hb dX6_areChallengesSound_2 (by decide) ?_
  refine lv_istore_n (lv' := [(2, .int (0 : Int32)), (1, .int (0 : Int32)), (0, .ref (Z.2.2 0 0))]) hx hb dX6_areChallengesSound_3 rfl hl (by decide) rfl (fun ls hl => ?_)
  obtain ⟨k1, hk1, hk⟩ := gn hk
  have ex1 : ∀ (v2 : Int32) (H : Heap) (locs : List Loc) (ls : Array Slot), k1 v2 = some (r) → wP Z (X, M, O) H → va_S (wA Z s.heap.size) s.heap H locs → lv_has ls 3 [(1, .int v2), (0, .ref (Z.2.2 0 0))] → W p l e (headSpec ws_X6_areChallengesSound rm_X6_areChallengesSound).room s m args below meth c H locs 0 0 (vx_MQ below (cQi Z (X, M, O) (.inl r) s.heap.size) (cX Z (X, M, O) (.inl r : Int32 ⊕ String) s.heap.size) args s 0 0 (wA Z s.heap.size)) (F0 m 35 ls []) := by
    intro v2 H locs ls hk hP hS hl
    subst hk1
    refine lv_iconst (v := (0 : Int32)) hx hb dX6_areChallengesSound_35 (by decide) ?_
    refine lv_istore_n (lv' := [(2, .int (0 : Int32)), (1, .int v2), (0, .ref (Z.2.2 0 0))]) hx hb dX6_areChallengesSound_36 rfl hl (by decide) rfl (fun ls hl => ?_)
    obtain ⟨k5, hk5, hk⟩ := gn hk
    have ex5 : ∀ (H : Heap) (locs : List Loc) (ls : Array Slot), k5 () = some (r) → wP Z (X, M, O) H → va_S (wA Z s.heap.size) s.heap H locs → lv_has ls 3 [(1, .int v2), (0, .ref (Z.2.2 0 0))] → W p l e (headSpec ws_X6_areChallengesSound rm_X6_areChallengesSound).room s m args below meth c H locs 0 0 (vx_MQ below (cQi Z (X, M, O) (.inl r) s.heap.size) (cX Z (X, M, O) (.inl r : Int32 ⊕ String) s.heap.size) args s 0 0 (wA Z s.heap.size)) (F0 m 80 ls []) := by
      intro  H locs ls hk hP hS hl
      subst hk5
      refine lv_iload_n hx hb dX6_areChallengesSound_80 rfl (lv_at hl 0 rfl) ?_
      refine lv_aload_n hx hb dX6_areChallengesSound_81 rfl (lv_at hl 1 rfl) ?_
      refine gf_RX6_68 hx hb hts hown hK hP (by decide) dX6_areChallengesSound_82 ?_
      refine lv_icmp_ne (tgt := 92) hx hb dX6_areChallengesSound_85 (by decide) (fun cz7 => ?_) (fun cz7 => ?_)
      · have hk := it_f cz7 hk
        refine lv_iconst (v := (0 : Int32)) hx hb dX6_areChallengesSound_92 (by decide) ?_
        cases (show some _ = some _ from hk)
        exact we_z hx hb hr hlocks (show okz (0 : Int32) by unfold okz; decide).1 hP rfl hS dX6_areChallengesSound_93 (by decide) (by decide)
      · have hk := it_t cz7 hk
        refine lv_iconst (v := (1 : Int32)) hx hb dX6_areChallengesSound_88 (by decide) ?_
        refine lv_goto (tgt := 93) hx hb dX6_areChallengesSound_89 (by decide) ?_
        cases (show some _ = some _ from hk)
        exact we_z hx hb hr hlocks (show okz (1 : Int32) by unfold okz; decide).1 hP rfl hS dX6_areChallengesSound_93 (by decide) (by decide)
    have lp5 : ∀ (n : Nat) (v6 : Int32) (H : Heap) (locs : List Loc) (ls : Array Slot), f_X6_areChallengesSound_L37 X n v6 k5 = some (r) → wP Z (X, M, O) H → va_S (wA Z s.heap.size) s.heap H locs → lv_has ls 3 [(2, .int v6), (1, .int v2), (0, .ref (Z.2.2 0 0))] → W p l e (headSpec ws_X6_areChallengesSound rm_X6_areChallengesSound).room s m args below meth c H locs 0 0 (vx_MQ below (cQi Z (X, M, O) (.inl r) s.heap.size) (cX Z (X, M, O) (.inl r : Int32 ⊕ String) s.heap.size) args s 0 0 (wA Z s.heap.size)) (F0 m 37 ls []) := by
      intro n
      induction n with
      | zero =>
        intro v6 H locs ls hk
        rw [f_X6_areChallengesSound_L37] at hk
        exact nomatch (show none = some _ from hk)
      | succ n ih =>
        intro v6 H locs ls hk hP hS hl
        rw [f_X6_areChallengesSound_L37] at hk
        refine lv_iload_n hx hb dX6_areChallengesSound_37 rfl (lv_at hl 0 rfl) ?_
        refine lv_aload_n hx hb dX6_areChallengesSound_38 rfl (lv_at hl 2 rfl) ?_
        refine gf_RX6_68 hx hb hts hown hK hP (by decide) dX6_areChallengesSound_39 ?_
        refine lv_icmp_ge (tgt := 80) hx hb dX6_areChallengesSound_42 (by decide) (fun cz8 => ?_) (fun cz8 => ?_)
        · have hk := it_t cz8 hk
          exact ex5 _ _ _ hk hP hS (lv_sub hl [1, 2] rfl)
        · have hk := it_f cz8 hk
          refine lv_aload_n hx hb dX6_areChallengesSound_45 rfl (lv_at hl 2 rfl) ?_
          refine gf_RX6_37 hx hb hts hown hK hP (by decide) dX6_areChallengesSound_46 ?_
          refine lv_aload_n hx hb dX6_areChallengesSound_49 rfl (lv_at hl 2 rfl) ?_
          refine gf_RX6_41 hx hb hts hown hK hP (by decide) dX6_areChallengesSound_50 ?_
          refine lv_iload_n hx hb dX6_areChallengesSound_53 rfl (lv_at hl 0 rfl) ?_
          obtain ⟨hg9, hk⟩ := gd_s hk
          refine wa_iaload_24 hx hb hK hP (by decide) hg9 dX6_areChallengesSound_54 ?_
          obtain ⟨hg10, hk⟩ := gd_s hk
          refine wa_aaload_23 hx hb hK hP (by decide) hg10 dX6_areChallengesSound_55 ?_
          refine gf_RX6_238 hx hb hts hown hK hP (vp_lt hg10) dX6_areChallengesSound_56 ?_
          refine lv_bipush (v := (99 : Int32)) hx hb dX6_areChallengesSound_59 (by decide) ?_
          refine lv_icmp_ne (tgt := 72) hx hb dX6_areChallengesSound_61 (by decide) (fun cz11 => ?_) (fun cz11 => ?_)
          · have hk := it_f cz11 hk
            refine lv_iconst (v := (0 : Int32)) hx hb dX6_areChallengesSound_72 (by decide) ?_
            cases (show some _ = some _ from hk)
            exact we_z hx hb hr hlocks (show okz (0 : Int32) by unfold okz; decide).1 hP rfl hS dX6_areChallengesSound_73 (by decide) (by decide)
          · have hk := it_t cz11 hk
            refine lv_aload_n hx hb dX6_areChallengesSound_64 rfl (lv_at hl 2 rfl) ?_
            refine lv_iload_n hx hb dX6_areChallengesSound_65 rfl (lv_at hl 0 rfl) ?_
            obtain ⟨v12, hf13, hk⟩ := b0_s hk
            refine wc_iV0 (rest := []) (As := [.int v6]) ⟨hx, hb, hml, hown, hts⟩ (fun sz => k_X6_isOpenTwice l hfl Z hZ X M O v6 v12 hf13 sz) (cw_RX6_475 (args := args) (s := s) hts (Nat.le_of_ble_eq_true rfl) (Nat.le_of_ble_eq_true rfl)) hE hP hK hS (rv_0 hK hP (by decide)) rfl hl.1 rfl (Nat.le_of_ble_eq_true rfl) dX6_areChallengesSound_66 ⟨Nat.le_of_ble_eq_true rfl, Nat.le_of_ble_eq_true rfl⟩ (fun H locs hP hS => ?_)
            refine lv_if_eq (tgt := 74) hx hb dX6_areChallengesSound_69 (by decide) (fun cz14 => ?_) (fun cz14 => ?_)
            · have hk := it_t cz14 hk
              refine lv_iinc (v := (v6 + (1 : Int32))) (lv' := [(2, .int (v6 + (1 : Int32))), (1, .int v2), (0, .ref (Z.2.2 0 0))]) hx hb dX6_areChallengesSound_74 hl (k := 0) rfl rfl (by decide) rfl (fun ls hl => ?_)
              refine lv_goto (tgt := 37) hx hb dX6_areChallengesSound_77 (by decide) ?_
              exact ih (v6 + (1 : Int32)) _ _ _ hk hP hS (lv_sub hl [0, 1, 2] rfl)
            · have hk := it_f cz14 hk
              refine lv_iconst (v := (0 : Int32)) hx hb dX6_areChallengesSound_72 (by decide) ?_
              cases (show some _ = some _ from hk)
              exact we_z hx hb hr hlocks (show okz (0 : Int32) by unfold okz; decide).1 hP rfl hS dX6_areChallengesSound_73 (by decide) (by decide)
    exact lp5 1000 (0 : Int32) _ _ _ hk hP hS (lv_sub hl [0, 1, 2] rfl)
  have lp1 : ∀ (n : Nat) (v3 : Int32) (v4 : Int32) (H : Heap) (locs : List Loc) (ls : Array Slot), f_X6_areChallengesSound_L4 X n v3 v4 k1 = some (r) → wP Z (X, M, O) H → va_S (wA Z s.heap.size) s.heap H locs → lv_has ls 3 [(2, .int v3), (1, .int v4), (0, .ref (Z.2.2 0 0))] → W p l e (headSpec ws_X6_areChallengesSound rm_X6_areChallengesSound).room s m args below meth c H locs 0 0 (vx_MQ below (cQi Z (X, M, O) (.inl r) s.heap.size) (cX Z (X, M, O) (.inl r : Int32 ⊕ String) s.heap.size) args s 0 0 (wA Z s.heap.size)) (F0 m 4 ls []) := by
    intro n
    induction n with
    | zero =>
      intro v3 v4 H locs ls hk
      rw [f_X6_areChallengesSound_L4] at hk
      exact nomatch (show none = some _ from hk)
    | succ n ih =>
      intro v3 v4 H locs ls hk hP hS hl
      rw [f_X6_areChallengesSound_L4] at hk
      refine lv_iload_n hx hb dX6_areChallengesSound_4 rfl (lv_at hl 0 rfl) ?_
      refine lv_aload_n hx hb dX6_areChallengesSound_5 rfl (lv_at hl 2 rfl) ?_
      refine gf_RX6_65 hx hb hts hown hK hP (by decide) dX6_areChallengesSound_6 ?_
      refine lv_icmp_ge (tgt := 35) hx hb dX6_areChallengesSound_9 (by decide) (fun cz15 => ?_) (fun cz15 => ?_)
      · have hk := it_t cz15 hk
        exact ex1 v4 _ _ _ hk hP hS (lv_sub hl [1, 2] rfl)
      · have hk := it_f cz15 hk
        refine lv_aload_n hx hb dX6_areChallengesSound_12 rfl (lv_at hl 2 rfl) ?_
        refine gf_RX6_37 hx hb hts hown hK hP (by decide) dX6_areChallengesSound_13 ?_
        refine lv_iload_n hx hb dX6_areChallengesSound_16 rfl (lv_at hl 0 rfl) ?_
        obtain ⟨hg16, hk⟩ := gd_s hk
        refine wa_aaload_23 hx hb hK hP (by decide) hg16 dX6_areChallengesSound_17 ?_
        refine gf_RX6_238 hx hb hts hown hK hP (vp_lt hg16) dX6_areChallengesSound_18 ?_
        refine lv_bipush (v := (99 : Int32)) hx hb dX6_areChallengesSound_21 (by decide) ?_
        refine lv_icmp_ne (tgt := 29) hx hb dX6_areChallengesSound_23 (by decide) (fun cz17 => ?_) (fun cz17 => ?_)
        · have hk := it_f cz17 hk
          refine lv_iinc (v := (v3 + (1 : Int32))) (lv' := [(2, .int (v3 + (1 : Int32))), (1, .int v4), (0, .ref (Z.2.2 0 0))]) hx hb dX6_areChallengesSound_29 hl (k := 0) rfl rfl (by decide) rfl (fun ls hl => ?_)
          refine lv_goto (tgt := 4) hx hb dX6_areChallengesSound_32 (by decide) ?_
          exact ih (v3 + (1 : Int32)) v4 _ _ _ hk hP hS (lv_sub hl [0, 1, 2] rfl)
        · have hk := it_t cz17 hk
          refine lv_iinc (v := (v4 + (1 : Int32))) (lv' := [(1, .int (v4 + (1 : Int32))), (2, .int v3), (0, .ref (Z.2.2 0 0))]) hx hb dX6_areChallengesSound_26 hl (k := 1) rfl rfl (by decide) rfl (fun ls hl => ?_)
          refine lv_iinc (v := (v3 + (1 : Int32))) (lv' := [(2, .int (v3 + (1 : Int32))), (1, .int (v4 + (1 : Int32))), (0, .ref (Z.2.2 0 0))]) hx hb dX6_areChallengesSound_29 hl (k := 1) rfl rfl (by decide) rfl (fun ls hl => ?_)
          refine lv_goto (tgt := 4) hx hb dX6_areChallengesSound_32 (by decide) ?_
          exact ih (v3 + (1 : Int32)) (v4 + (1 : Int32)) _ _ _ hk hP hS (lv_sub hl [0, 1, 2] rfl)
  exact lp1 1000 (0 : Int32) (0 : Int32) _ _ _ hk hP hS (lv_sub hl [0, 1, 2] rfl)
set_option maxHeartbeats 4000000 in
set_option maxRecDepth 100000 in
theorem k_X6_isSound (l : Launch) (hfl : l.stackTraces = false) (Z : ZT) (hZ : wD Z) (X M O : SS) (Xz : SS) (r : Int32) (hf : f_X6_isSound X = some (Xz, r)) (sz : Nat) : vx_Met l yX6_isSound ws_X6_isSound rm_X6_isSound (va_Pc [.ref (Z.2.2 0 0)] (cP Z (X, M, O) sz)) (cQi Z (Xz, M, O) (.inl r) sz) (cX Z (Xz, M, O) (.inl r : Int32 ⊕ String) sz) 0 0 (wA Z sz) := by
  refine vx_ofW (cc := cX6_isSound) (maxL := 1) (ret := (some .boolean)) (by decide) rfl ?_
  intro p e s m args below meth c s₁ B hml htab hv
  obtain ⟨hargs, hsz, hE, hP, hK⟩ := hv
  have hx := B.exec
  have hb := B.bytes
  have hr := B.returns
  have hts0 := atoms_spec (ws := ws_X6_isSound) B.pre
  have hts : ∀ w ∈ lw_all, w.before args s = true := fun w h => hts0 w (List.mem_cons_of_mem _ h)
  have hown : s.vm.findClass RX6 = some m.cls := findClass_of_methodNamed B.named
  have hlocks := B.notSynchronized
  have hout9 : ∀ (pc9 : Nat), ∀ x ∈ c.exceptionTable.toList, covers x pc9 = false := fun _ x hx9 => (htab x hx9).elim
  subst hsz
  have hS : va_S (wA Z s.heap.size) s.heap s.heap [] := va_S.rf
  have hl := lv_entry ([.ref (Z.2.2 0 0)]) (n := 1) (Nat.le_of_ble_eq_true rfl)
  have hen : entryFrame m args 1 = entryFrame m ([.ref (Z.2.2 0 0)] : List Value).toArray 1 := by rw [hargs]
  rw [hen, lg_entry_eq]
  generalize (lg_sl ([.ref (Z.2.2 0 0)]) ++ List.replicate (1 - (lg_sl ([.ref (Z.2.2 0 0)])).length) Slot.unset).toArray = ls at hl ⊢
  have hl : lv_has ls 1 [(0, .ref (Z.2.2 0 0))] := hl
  have hk := hf
  unfold f_X6_isSound at hk
  refine lv_aload_n hx hb dX6_isSound_0 rfl (lv_at hl 0 rfl) ?_
  obtain ⟨v1, hf2, hk⟩ := b0_s hk
  refine wc_iV0 (rest := []) (As := []) ⟨hx, hb, hml, hown, hts⟩ (fun sz => k_X6_bodyCount l hfl Z hZ X M O v1 hf2 sz) (cw_RX6_270 (args := args) (s := s) hts (Nat.le_of_ble_eq_true rfl) (Nat.le_of_ble_eq_true rfl)) hE hP hK hS (rv_0 hK hP (by decide)) rfl hl.1 rfl (Nat.le_of_ble_eq_true rfl) dX6_isSound_1 ⟨Nat.le_of_ble_eq_true rfl, Nat.le_of_ble_eq_true rfl⟩ (fun H locs hP hS => ?_)
  refine lv_aload_n hx hb dX6_isSound_4 rfl (lv_at hl 0 rfl) ?_
  refine gf_RX6_71 hx hb hts hown hK hP (by decide) dX6_isSound_5 ?_
  refine lv_icmp_gt (tgt := 36) hx hb dX6_isSound_8 (by decide) (fun cz3 => ?_) (fun cz3 => ?_)
  · have hk := it_t cz3 hk
    refine lv_iconst (v := (0 : Int32)) hx hb dX6_isSound_36 (by decide) ?_
    cases (show some _ = some _ from hk)
    exact we_z hx hb hr hlocks (show okz (0 : Int32) by unfold okz; decide).1 hP rfl hS dX6_isSound_37 (by decide) (by decide)
  · have hk := it_f cz3 hk
    refine lv_aload_n hx hb dX6_isSound_11 rfl (lv_at hl 0 rfl) ?_
    obtain ⟨X5, v4, hf6, hk⟩ := b1_s hk
    refine wc_iV0 (rest := []) (As := []) ⟨hx, hb, hml, hown, hts⟩ (fun sz => k_X6_areBodiesSound l hfl Z hZ X M O X5 v4 hf6 sz) (cw_RX6_395 (args := args) (s := s) hts (Nat.le_of_ble_eq_true rfl) (Nat.le_of_ble_eq_true rfl)) hE hP hK hS (rv_0 hK hP (by decide)) rfl hl.1 rfl (Nat.le_of_ble_eq_true rfl) dX6_isSound_12 ⟨Nat.le_of_ble_eq_true rfl, Nat.le_of_ble_eq_true rfl⟩ (fun H locs hP hS => ?_)
    refine lv_if_eq (tgt := 36) hx hb dX6_isSound_15 (by decide) (fun cz7 => ?_) (fun cz7 => ?_)
    · have hk := it_t cz7 hk
      refine lv_iconst (v := (0 : Int32)) hx hb dX6_isSound_36 (by decide) ?_
      cases (show some _ = some _ from hk)
      exact we_z hx hb hr hlocks (show okz (0 : Int32) by unfold okz; decide).1 hP rfl hS dX6_isSound_37 (by decide) (by decide)
    · have hk := it_f cz7 hk
      refine lv_aload_n hx hb dX6_isSound_18 rfl (lv_at hl 0 rfl) ?_
      obtain ⟨X9, v8, hf10, hk⟩ := b1_s hk
      refine wc_iV0 (rest := []) (As := []) ⟨hx, hb, hml, hown, hts⟩ (fun sz => k_X6_areBeltsSound l hfl Z hZ X5 M O X9 v8 hf10 sz) (cw_RX6_398 (args := args) (s := s) hts (Nat.le_of_ble_eq_true rfl) (Nat.le_of_ble_eq_true rfl)) hE hP hK hS (rv_0 hK hP (by decide)) rfl hl.1 rfl (Nat.le_of_ble_eq_true rfl) dX6_isSound_19 ⟨Nat.le_of_ble_eq_true rfl, Nat.le_of_ble_eq_true rfl⟩ (fun H locs hP hS => ?_)
      refine lv_if_eq (tgt := 36) hx hb dX6_isSound_22 (by decide) (fun cz11 => ?_) (fun cz11 => ?_)
      · have hk := it_t cz11 hk
        refine lv_iconst (v := (0 : Int32)) hx hb dX6_isSound_36 (by decide) ?_
        cases (show some _ = some _ from hk)
        exact we_z hx hb hr hlocks (show okz (0 : Int32) by unfold okz; decide).1 hP rfl hS dX6_isSound_37 (by decide) (by decide)
      · have hk := it_f cz11 hk
        refine lv_aload_n hx hb dX6_isSound_25 rfl (lv_at hl 0 rfl) ?_
        obtain ⟨v12, hf13, hk⟩ := b0_s hk
        refine wc_iV0 (rest := []) (As := []) ⟨hx, hb, hml, hown, hts⟩ (fun sz => k_X6_areChallengesSound l hfl Z hZ X9 M O v12 hf13 sz) (cw_RX6_401 (args := args) (s := s) hts (Nat.le_of_ble_eq_true rfl) (Nat.le_of_ble_eq_true rfl)) hE hP hK hS (rv_0 hK hP (by decide)) rfl hl.1 rfl (Nat.le_of_ble_eq_true rfl) dX6_isSound_26 ⟨Nat.le_of_ble_eq_true rfl, Nat.le_of_ble_eq_true rfl⟩ (fun H locs hP hS => ?_)
        refine lv_if_eq (tgt := 36) hx hb dX6_isSound_29 (by decide) (fun cz14 => ?_) (fun cz14 => ?_)
        · have hk := it_t cz14 hk
          refine lv_iconst (v := (0 : Int32)) hx hb dX6_isSound_36 (by decide) ?_
          cases (show some _ = some _ from hk)
          exact we_z hx hb hr hlocks (show okz (0 : Int32) by unfold okz; decide).1 hP rfl hS dX6_isSound_37 (by decide) (by decide)
        · have hk := it_f cz14 hk
          refine lv_iconst (v := (1 : Int32)) hx hb dX6_isSound_32 (by decide) ?_
          refine lv_goto (tgt := 37) hx hb dX6_isSound_33 (by decide) ?_
          cases (show some _ = some _ from hk)
          exact we_z hx hb hr hlocks (show okz (1 : Int32) by unfold okz; decide).1 hP rfl hS dX6_isSound_37 (by decide) (by decide)