set_option maxHeartbeats 4000000 in
set_option maxRecDepth 100000 in
theorem k_X7_sumOf (l : Launch) (hfl : l.stackTraces = false) (Z : ZT) (hZ : wD Z) (X M O : SS) (p0 : Int32) (r : Int64) (hf : f_X7_sumOf M p0 = some (r)) (sz : Nat) : vx_Met l yX7_sumOf ws_X7_sumOf rm_X7_sumOf (va_Pc [.ref (Z.2.2 26 0), .int p0] (cP Z (X, M, O) sz)) (cQl Z (X, M, O) (.inl r) sz) (cX Z (X, M, O) (.inl r : Int64 ⊕ String) sz) 0 0 (wA Z sz) := by
  refine vx_ofW (cc := cX7_sumOf) (maxL := 5) (ret := (some .long)) (by decide) rfl ?_
  intro p e s m args below meth c s₁ B hml htab hv
  obtain ⟨hargs, hsz, hE, hP, hK⟩ := hv
  have hx := B.exec
  have hb := B.bytes
  have hr := B.returns
  have hts0 := atoms_spec (ws := ws_X7_sumOf) B.pre
  have hts : ∀ w ∈ lw_all, w.before args s = true := fun w h => hts0 w (List.mem_cons_of_mem _ h)
  have hown : s.vm.findClass RX7 = some m.cls := findClass_of_methodNamed B.named
  have hlocks := B.notSynchronized
  have hout9 : ∀ (pc9 : Nat), ∀ x ∈ c.exceptionTable.toList, covers x pc9 = false := fun _ x hx9 => (htab x hx9).elim
  subst hsz
  have hS : va_S (wA Z s.heap.size) s.heap s.heap [] := va_S.rf
  have hl := lv_entry ([.ref (Z.2.2 26 0), .int p0]) (n := 5) (Nat.le_of_ble_eq_true rfl)
  have hen : entryFrame m args 5 = entryFrame m ([.ref (Z.2.2 26 0), .int p0] : List Value).toArray 5 := by rw [hargs]
  rw [hen, lg_entry_eq]
  generalize (lg_sl ([.ref (Z.2.2 26 0), .int p0]) ++ List.replicate (5 - (lg_sl ([.ref (Z.2.2 26 0), .int p0])).length) Slot.unset).toArray = ls at hl ⊢
  have hl : lv_has ls 5 [(0, .ref (Z.2.2 26 0)), (1, .int p0)] := hl
  have hk := hf
  unfold f_X7_sumOf at hk
  refine lv_ldc2 (v := (17 : Int64)) hx hb hown (hts _ q1509) dX7_sumOf_0 ?_
  obtain ⟨v1, ev1, hk⟩ := lq_s hk
  refine W.eq (g2 := F0 m 3 ls [.long v1]) (by rw [ev1]) ?_
  refine lv_lstore_n (lv' := [(2, .long v1), (0, .ref (Z.2.2 26 0)), (1, .int p0)]) hx hb dX7_sumOf_3 rfl hl (by decide) rfl (fun ls hl => ?_)
  refine lv_iconst (v := (0 : Int32)) hx hb dX7_sumOf_4 (by decide) ?_
  refine lv_istore (lv' := [(4, .int (0 : Int32)), (2, .long v1), (0, .ref (Z.2.2 26 0)), (1, .int p0)]) hx hb dX7_sumOf_5 hl (by decide) rfl (fun ls hl => ?_)
  obtain ⟨k2, hk2, hk⟩ := gn hk
  have ex2 : ∀ (v3 : Int64) (H : Heap) (locs : List Loc) (ls : Array Slot), k2 v3 = some (r) → wP Z (X, M, O) H → va_S (wA Z s.heap.size) s.heap H locs → lv_has ls 5 [(2, .long v3)] → W p l e (headSpec ws_X7_sumOf rm_X7_sumOf).room s m args below meth c H locs 0 0 (vx_MQ below (cQl Z (X, M, O) (.inl r) s.heap.size) (cX Z (X, M, O) (.inl r : Int64 ⊕ String) s.heap.size) args s 0 0 (wA Z s.heap.size)) (F0 m 62 ls []) := by
    intro v3 H locs ls hk hP hS hl
    subst hk2
    refine lv_lload_n hx hb dX7_sumOf_62 rfl (lv_at hl 0 rfl) ?_
    cases (show some _ = some _ from hk)
    exact we_l hx hb hr hlocks hP rfl hS dX7_sumOf_63 (by decide) (by decide)
  have lp2 : ∀ (n : Nat) (v4 : Int32) (v5 : Int64) (H : Heap) (locs : List Loc) (ls : Array Slot), f_X7_sumOf_L7 p0 M n v4 v5 k2 = some (r) → wP Z (X, M, O) H → va_S (wA Z s.heap.size) s.heap H locs → lv_has ls 5 [(4, .int v4), (2, .long v5), (0, .ref (Z.2.2 26 0)), (1, .int p0)] → W p l e (headSpec ws_X7_sumOf rm_X7_sumOf).room s m args below meth c H locs 0 0 (vx_MQ below (cQl Z (X, M, O) (.inl r) s.heap.size) (cX Z (X, M, O) (.inl r : Int64 ⊕ String) s.heap.size) args s 0 0 (wA Z s.heap.size)) (F0 m 7 ls []) := by
    intro n
    induction n with
    | zero =>
      intro v4 v5 H locs ls hk
      rw [f_X7_sumOf_L7] at hk
      exact nomatch (show none = some _ from hk)
    | succ n ih =>
      intro v4 v5 H locs ls hk hP hS hl
      rw [f_X7_sumOf_L7] at hk
      refine lv_iload hx hb dX7_sumOf_7 (lv_at hl 0 rfl) ?_
      refine lv_aload_n hx hb dX7_sumOf_9 rfl (lv_at hl 2 rfl) ?_
      refine gf_RX7_48 hx hb hts hown hK hP (by decide) dX7_sumOf_10 ?_
      refine lv_iload_n hx hb dX7_sumOf_13 rfl (lv_at hl 3 rfl) ?_
      obtain ⟨hg6, hk⟩ := gd_s hk
      refine wa_iaload_29 hx hb hK hP (by decide) hg6 dX7_sumOf_14 ?_
      refine lv_icmp_ge (tgt := 62) hx hb dX7_sumOf_15 (by decide) (fun cz7 => ?_) (fun cz7 => ?_)
      · have hk := it_t cz7 hk
        exact ex2 v5 _ _ _ hk hP hS (lv_sub hl [1] rfl)
      · have hk := it_f cz7 hk
        refine lv_ldc2 (v := (31 : Int64)) hx hb hown (hts _ q1510) dX7_sumOf_18 ?_
        refine lv_ldc2 (v := (31 : Int64)) hx hb hown (hts _ q1510) dX7_sumOf_21 ?_
        refine lv_lload_n hx hb dX7_sumOf_24 rfl (lv_at hl 1 rfl) ?_
        refine lv_lmul hx hb dX7_sumOf_25 ?_
        refine lv_aload_n hx hb dX7_sumOf_26 rfl (lv_at hl 2 rfl) ?_
        refine gf_RX7_40 hx hb hts hown hK hP (by decide) dX7_sumOf_27 ?_
        refine lv_bipush (v := (24 : Int32)) hx hb dX7_sumOf_30 (by decide) ?_
        refine lv_iload_n hx hb dX7_sumOf_32 rfl (lv_at hl 3 rfl) ?_
        refine lv_imul hx hb dX7_sumOf_33 ?_
        refine lv_iload hx hb dX7_sumOf_34 (lv_at hl 0 rfl) ?_
        refine lv_iadd hx hb dX7_sumOf_36 ?_
        obtain ⟨hg8, hk⟩ := gd_s hk
        refine wa_caload_27 hx hb hK hP (by decide) hg8 dX7_sumOf_37 ?_
        refine lv_i2l (v := ((M.1 27 0 ((((24 : Int32) * p0) + v4)).toNatClampNeg)).toInt64) hx hb dX7_sumOf_38 rfl ?_
        refine lv_ladd hx hb dX7_sumOf_39 ?_
        refine lv_lmul hx hb dX7_sumOf_40 ?_
        refine lv_aload_n hx hb dX7_sumOf_41 rfl (lv_at hl 2 rfl) ?_
        refine gf_RX7_44 hx hb hts hown hK hP (by decide) dX7_sumOf_42 ?_
        refine lv_bipush (v := (24 : Int32)) hx hb dX7_sumOf_45 (by decide) ?_
        refine lv_iload_n hx hb dX7_sumOf_47 rfl (lv_at hl 3 rfl) ?_
        refine lv_imul hx hb dX7_sumOf_48 ?_
        refine lv_iload hx hb dX7_sumOf_49 (lv_at hl 0 rfl) ?_
        refine lv_iadd hx hb dX7_sumOf_51 ?_
        obtain ⟨hg9, hk⟩ := gd_s hk
        refine wa_iaload_28 hx hb hK hP (by decide) hg9 dX7_sumOf_52 ?_
        refine lv_i2l (v := ((M.1 28 0 ((((24 : Int32) * p0) + v4)).toNatClampNeg)).toInt64) hx hb dX7_sumOf_53 rfl ?_
        refine lv_ladd hx hb dX7_sumOf_54 ?_
        obtain ⟨v10, ev10, hk⟩ := lq_s hk
        refine W.eq (g2 := F0 m 55 ls [.long v10]) (by rw [ev10]) ?_
        refine lv_lstore_n (lv' := [(2, .long v10), (4, .int v4), (0, .ref (Z.2.2 26 0)), (1, .int p0)]) hx hb dX7_sumOf_55 rfl hl (by decide) rfl (fun ls hl => ?_)
        refine lv_iinc (v := (v4 + (1 : Int32))) (lv' := [(4, .int (v4 + (1 : Int32))), (2, .long v10), (0, .ref (Z.2.2 26 0)), (1, .int p0)]) hx hb dX7_sumOf_56 hl (k := 1) rfl rfl (by decide) rfl (fun ls hl => ?_)
        refine lv_goto (tgt := 7) hx hb dX7_sumOf_59 (by decide) ?_
        exact ih (v4 + (1 : Int32)) v10 _ _ _ hk hP hS (lv_sub hl [0, 1, 2, 3] rfl)
  exact lp2 1000 (0 : Int32) v1 _ _ _ hk hP hS (lv_sub hl [0, 1, 2, 3] rfl)
set_option maxHeartbeats 4000000 in
set_option maxRecDepth 100000 in
theorem k_X7_isKata (l : Launch) (hfl : l.stackTraces = false) (Z : ZT) (hZ : wD Z) (X M O : SS) (p0 : Int32) (r : Int32) (hf : f_X7_isKata M p0 = some (r)) (sz : Nat) : vx_Met l yX7_isKata ws_X7_isKata rm_X7_isKata (va_Pc [.ref (Z.2.2 26 0), .int p0] (cP Z (X, M, O) sz)) (cQi Z (X, M, O) (.inl r) sz) (cX Z (X, M, O) (.inl r : Int32 ⊕ String) sz) 0 0 (wA Z sz) := by
  refine vx_ofW (cc := cX7_isKata) (maxL := 2) (ret := (some .boolean)) (by decide) rfl ?_
  intro p e s m args below meth c s₁ B hml htab hv
  obtain ⟨hargs, hsz, hE, hP, hK⟩ := hv
  have hx := B.exec
  have hb := B.bytes
  have hr := B.returns
  have hts0 := atoms_spec (ws := ws_X7_isKata) B.pre
  have hts : ∀ w ∈ lw_all, w.before args s = true := fun w h => hts0 w (List.mem_cons_of_mem _ h)
  have hown : s.vm.findClass RX7 = some m.cls := findClass_of_methodNamed B.named
  have hlocks := B.notSynchronized
  have hout9 : ∀ (pc9 : Nat), ∀ x ∈ c.exceptionTable.toList, covers x pc9 = false := fun _ x hx9 => (htab x hx9).elim
  subst hsz
  have hS : va_S (wA Z s.heap.size) s.heap s.heap [] := va_S.rf
  have hl := lv_entry ([.ref (Z.2.2 26 0), .int p0]) (n := 2) (Nat.le_of_ble_eq_true rfl)
  have hen : entryFrame m args 2 = entryFrame m ([.ref (Z.2.2 26 0), .int p0] : List Value).toArray 2 := by rw [hargs]
  rw [hen, lg_entry_eq]
  generalize (lg_sl ([.ref (Z.2.2 26 0), .int p0]) ++ List.replicate (2 - (lg_sl ([.ref (Z.2.2 26 0), .int p0])).length) Slot.unset).toArray = ls at hl ⊢
  have hl : lv_has ls 2 [(0, .ref (Z.2.2 26 0)), (1, .int p0)] := hl
  have hk := hf
  unfold f_X7_isKata at hk
  refine lv_iload_n hx hb dX7_isKata_0 rfl (lv_at hl 1 rfl) ?_
  refine lv_iconst (v := (0 : Int32)) hx hb dX7_isKata_1 (by decide) ?_
  refine lv_aload_n hx hb dX7_isKata_2 rfl (lv_at hl 0 rfl) ?_
  refine gf_RX7_19 hx hb hts hown hK hP (by decide) dX7_isKata_3 ?_
  refine lv_iconst (v := (1 : Int32)) hx hb dX7_isKata_6 (by decide) ?_
  refine lv_isub hx hb dX7_isKata_7 ?_
  obtain ⟨v1, hf2, hk⟩ := b0_s hk
  refine wc_iS0 (rest := []) (As := [.int p0, .int (0 : Int32), .int ((M.1 26 0 3) - (1 : Int32))]) ⟨hx, hb, hml, hown, hts⟩ (fun sz => k_X7_in l hfl Z hZ X M O p0 (0 : Int32) ((M.1 26 0 3) - (1 : Int32)) v1 hf2 sz) (cw_RX7_161 (args := args) (s := s) hts (Nat.le_of_ble_eq_true rfl) (Nat.le_of_ble_eq_true rfl)) hE hP hK hS  rfl hl.1 rfl (Nat.le_of_ble_eq_true rfl) dX7_isKata_8 ⟨Nat.le_of_ble_eq_true rfl, Nat.le_of_ble_eq_true rfl⟩ (fun H locs hP hS => ?_)
  obtain ⟨hg3, hk⟩ := gd_s hk
  cases (show some _ = some _ from hk)
  exact we_z hx hb hr hlocks hg3.1 hP rfl hS dX7_isKata_11 (by decide) (by decide)
set_option maxHeartbeats 4000000 in
set_option maxRecDepth 100000 in
theorem k_X7_isTest (l : Launch) (hfl : l.stackTraces = false) (Z : ZT) (hZ : wD Z) (X M O : SS) (p0 : Int32) (p1 : Int32) (r : Int32) (hf : f_X7_isTest M p0 p1 = some (r)) (sz : Nat) : vx_Met l yX7_isTest ws_X7_isTest rm_X7_isTest (va_Pc [.ref (Z.2.2 26 0), .int p0, .int p1] (cP Z (X, M, O) sz)) (cQi Z (X, M, O) (.inl r) sz) (cX Z (X, M, O) (.inl r : Int32 ⊕ String) sz) 0 0 (wA Z sz) := by
  refine vx_ofW (cc := cX7_isTest) (maxL := 3) (ret := (some .boolean)) (by decide) rfl ?_
  intro p e s m args below meth c s₁ B hml htab hv
  obtain ⟨hargs, hsz, hE, hP, hK⟩ := hv
  have hx := B.exec
  have hb := B.bytes
  have hr := B.returns
  have hts0 := atoms_spec (ws := ws_X7_isTest) B.pre
  have hts : ∀ w ∈ lw_all, w.before args s = true := fun w h => hts0 w (List.mem_cons_of_mem _ h)
  have hown : s.vm.findClass RX7 = some m.cls := findClass_of_methodNamed B.named
  have hlocks := B.notSynchronized
  have hout9 : ∀ (pc9 : Nat), ∀ x ∈ c.exceptionTable.toList, covers x pc9 = false := fun _ x hx9 => (htab x hx9).elim
  subst hsz
  have hS : va_S (wA Z s.heap.size) s.heap s.heap [] := va_S.rf
  have hl := lv_entry ([.ref (Z.2.2 26 0), .int p0, .int p1]) (n := 3) (Nat.le_of_ble_eq_true rfl)
  have hen : entryFrame m args 3 = entryFrame m ([.ref (Z.2.2 26 0), .int p0, .int p1] : List Value).toArray 3 := by rw [hargs]
  rw [hen, lg_entry_eq]
  generalize (lg_sl ([.ref (Z.2.2 26 0), .int p0, .int p1]) ++ List.replicate (3 - (lg_sl ([.ref (Z.2.2 26 0), .int p0, .int p1])).length) Slot.unset).toArray = ls at hl ⊢
  have hl : lv_has ls 3 [(0, .ref (Z.2.2 26 0)), (1, .int p0), (2, .int p1)] := hl
  have hk := hf
  unfold f_X7_isTest at hk
  refine lv_aload_n hx hb dX7_isTest_0 rfl (lv_at hl 0 rfl) ?_
  refine lv_iload_n hx hb dX7_isTest_1 rfl (lv_at hl 1 rfl) ?_
  obtain ⟨v1, hf2, hk⟩ := b0_s hk
  refine wc_iV0 (rest := []) (As := [.int p0]) ⟨hx, hb, hml, hown, hts⟩ (fun sz => k_X7_isKata l hfl Z hZ X M O p0 v1 hf2 sz) (cw_RX7_192 (args := args) (s := s) hts (Nat.le_of_ble_eq_true rfl) (Nat.le_of_ble_eq_true rfl)) hE hP hK hS (rv_26 hK hP (by decide)) rfl hl.1 rfl (Nat.le_of_ble_eq_true rfl) dX7_isTest_2 ⟨Nat.le_of_ble_eq_true rfl, Nat.le_of_ble_eq_true rfl⟩ (fun H locs hP hS => ?_)
  refine lv_if_eq (tgt := 28) hx hb dX7_isTest_5 (by decide) (fun cz3 => ?_) (fun cz3 => ?_)
  · have hk := it_t cz3 hk
    refine lv_iconst (v := (0 : Int32)) hx hb dX7_isTest_28 (by decide) ?_
    cases (show some _ = some _ from hk)
    exact we_z hx hb hr hlocks (show okz (0 : Int32) by unfold okz; decide).1 hP rfl hS dX7_isTest_29 (by decide) (by decide)
  · have hk := it_f cz3 hk
    refine lv_iload_n hx hb dX7_isTest_8 rfl (lv_at hl 2 rfl) ?_
    refine lv_iconst (v := (0 : Int32)) hx hb dX7_isTest_9 (by decide) ?_
    refine lv_aload_n hx hb dX7_isTest_10 rfl (lv_at hl 0 rfl) ?_
    refine gf_RX7_60 hx hb hts hown hK hP (by decide) dX7_isTest_11 ?_
    refine lv_iload_n hx hb dX7_isTest_14 rfl (lv_at hl 1 rfl) ?_
    obtain ⟨hg4, hk⟩ := gd_s hk
    refine wa_iaload_33 hx hb hK hP (by decide) hg4 dX7_isTest_15 ?_
    refine lv_iconst (v := (1 : Int32)) hx hb dX7_isTest_16 (by decide) ?_
    refine lv_isub hx hb dX7_isTest_17 ?_
    obtain ⟨v5, hf6, hk⟩ := b0_s hk
    refine wc_iS0 (rest := []) (As := [.int p1, .int (0 : Int32), .int ((M.1 33 0 (p0).toNatClampNeg) - (1 : Int32))]) ⟨hx, hb, hml, hown, hts⟩ (fun sz => k_X7_in l hfl Z hZ X M O p1 (0 : Int32) ((M.1 33 0 (p0).toNatClampNeg) - (1 : Int32)) v5 hf6 sz) (cw_RX7_161 (args := args) (s := s) hts (Nat.le_of_ble_eq_true rfl) (Nat.le_of_ble_eq_true rfl)) hE hP hK hS  rfl hl.1 rfl (Nat.le_of_ble_eq_true rfl) dX7_isTest_18 ⟨Nat.le_of_ble_eq_true rfl, Nat.le_of_ble_eq_true rfl⟩ (fun H locs hP hS => ?_)
    refine lv_if_eq (tgt := 28) hx hb dX7_isTest_21 (by decide) (fun cz7 => ?_) (fun cz7 => ?_)
    · have hk := it_t cz7 hk
      refine lv_iconst (v := (0 : Int32)) hx hb dX7_isTest_28 (by decide) ?_
      cases (show some _ = some _ from hk)
      exact we_z hx hb hr hlocks (show okz (0 : Int32) by unfold okz; decide).1 hP rfl hS dX7_isTest_29 (by decide) (by decide)
    · have hk := it_f cz7 hk
      refine lv_iconst (v := (1 : Int32)) hx hb dX7_isTest_24 (by decide) ?_
      refine lv_goto (tgt := 29) hx hb dX7_isTest_25 (by decide) ?_
      cases (show some _ = some _ from hk)
      exact we_z hx hb hr hlocks (show okz (1 : Int32) by unfold okz; decide).1 hP rfl hS dX7_isTest_29 (by decide) (by decide)
set_option maxHeartbeats 4000000 in
set_option maxRecDepth 100000 in
theorem k_X7_kata (l : Launch) (hfl : l.stackTraces = false) (Z : ZT) (hZ : wD Z) (X M O : SS) (p0 : Int32) (Mz : SS) (r : Int32) (hf : f_X7_kata M p0 = some (Mz, r)) (sz : Nat) : vx_Met l yX7_kata ws_X7_kata rm_X7_kata (va_Pc [.ref (Z.2.2 26 0), .int p0] (cP Z (X, M, O) sz)) (cQi Z (X, Mz, O) (.inl r) sz) (cX Z (X, Mz, O) (.inl r : Int32 ⊕ String) sz) 0 0 (wA Z sz) := by
  refine vx_ofW (cc := cX7_kata) (maxL := 2) (ret := (some .int)) (by decide) rfl ?_
  intro p e s m args below meth c s₁ B hml htab hv
  obtain ⟨hargs, hsz, hE, hP, hK⟩ := hv
  have hx := B.exec
  have hb := B.bytes
  have hr := B.returns
  have hts0 := atoms_spec (ws := ws_X7_kata) B.pre
  have hts : ∀ w ∈ lw_all, w.before args s = true := fun w h => hts0 w (List.mem_cons_of_mem _ h)
  have hown : s.vm.findClass RX7 = some m.cls := findClass_of_methodNamed B.named
  have hlocks := B.notSynchronized
  have hout9 : ∀ (pc9 : Nat), ∀ x ∈ c.exceptionTable.toList, covers x pc9 = false := fun _ x hx9 => (htab x hx9).elim
  subst hsz
  have hS : va_S (wA Z s.heap.size) s.heap s.heap [] := va_S.rf
  have hl := lv_entry ([.ref (Z.2.2 26 0), .int p0]) (n := 2) (Nat.le_of_ble_eq_true rfl)
  have hen : entryFrame m args 2 = entryFrame m ([.ref (Z.2.2 26 0), .int p0] : List Value).toArray 2 := by rw [hargs]
  rw [hen, lg_entry_eq]
  generalize (lg_sl ([.ref (Z.2.2 26 0), .int p0]) ++ List.replicate (2 - (lg_sl ([.ref (Z.2.2 26 0), .int p0])).length) Slot.unset).toArray = ls at hl ⊢
  have hl : lv_has ls 2 [(0, .ref (Z.2.2 26 0)), (1, .int p0)] := hl
  have hk := hf
  unfold f_X7_kata at hk
  refine lv_iload_n hx hb dX7_kata_0 rfl (lv_at hl 1 rfl) ?_
  refine lv_iconst (v := (1 : Int32)) hx hb dX7_kata_1 (by decide) ?_
  refine lv_iconst (v := (5 : Int32)) hx hb dX7_kata_2 (by decide) ?_
  obtain ⟨v1, hf2, hk⟩ := b0_s hk
  refine wc_iS0 (rest := []) (As := [.int p0, .int (1 : Int32), .int (5 : Int32)]) ⟨hx, hb, hml, hown, hts⟩ (fun sz => k_X7_in l hfl Z hZ X M O p0 (1 : Int32) (5 : Int32) v1 hf2 sz) (cw_RX7_161 (args := args) (s := s) hts (Nat.le_of_ble_eq_true rfl) (Nat.le_of_ble_eq_true rfl)) hE hP hK hS  rfl hl.1 rfl (Nat.le_of_ble_eq_true rfl) dX7_kata_3 ⟨Nat.le_of_ble_eq_true rfl, Nat.le_of_ble_eq_true rfl⟩ (fun H locs hP hS => ?_)
  refine lv_if_ne (tgt := 15) hx hb dX7_kata_6 (by decide) (fun cz3 => ?_) (fun cz3 => ?_)
  · have hk := it_f cz3 hk
    refine lv_aload_n hx hb dX7_kata_15 rfl (lv_at hl 0 rfl) ?_
    refine gf_RX7_19 hx hb hts hown hK hP (by decide) dX7_kata_16 ?_
    refine lv_bipush (v := (8 : Int32)) hx hb dX7_kata_19 (by decide) ?_
    refine lv_icmp_ne (tgt := 30) hx hb dX7_kata_21 (by decide) (fun cz4 => ?_) (fun cz4 => ?_)
    · have hk := it_f cz4 hk
      refine lv_aload_n hx hb dX7_kata_30 rfl (lv_at hl 0 rfl) ?_
      refine gf_RX7_57 hx hb hts hown hK hP (by decide) dX7_kata_31 ?_
      refine lv_aload_n hx hb dX7_kata_34 rfl (lv_at hl 0 rfl) ?_
      refine gf_RX7_19 hx hb hts hown hK hP (by decide) dX7_kata_35 ?_
      refine lv_iload_n hx hb dX7_kata_38 rfl (lv_at hl 1 rfl) ?_
      obtain ⟨hg5, hk⟩ := gd_s hk
      obtain ⟨M6, eM6, hk⟩ := lq_s hk
      refine wa_iastore_32 hx hb hZ hK hP hS (by decide) hg5 dX7_kata_39 (fun H locs hP hS => ?_)
      rw [← eM6] at hP
      refine lv_aload_n hx hb dX7_kata_40 rfl (lv_at hl 0 rfl) ?_
      refine lv_dup hx hb dX7_kata_41 rfl ?_
      refine gf_RX7_19 hx hb hts hown hK hP (by decide) dX7_kata_42 ?_
      refine lv_iconst (v := (1 : Int32)) hx hb dX7_kata_45 (by decide) ?_
      refine lv_iadd hx hb dX7_kata_46 ?_
      obtain ⟨M7, eM7, hk⟩ := lq_s hk
      refine pf_RX7_19 hx hb hts hown hZ hK hP hS (by decide) dX7_kata_47 (fun H locs hP hS => ?_)
      rw [← eM7] at hP
      refine lv_aload_n hx hb dX7_kata_50 rfl (lv_at hl 0 rfl) ?_
      refine lv_aload_n hx hb dX7_kata_51 rfl (lv_at hl 0 rfl) ?_
      refine gf_RX7_19 hx hb hts hown hK hP (by decide) dX7_kata_52 ?_
      refine lv_iconst (v := (1 : Int32)) hx hb dX7_kata_55 (by decide) ?_
      refine lv_isub hx hb dX7_kata_56 ?_
      obtain ⟨M9, v8, hf10, hk⟩ := b1_s hk
      refine wc_iV0 (rest := []) (As := [.int ((M7.1 26 0 3) - (1 : Int32))]) ⟨hx, hb, hml, hown, hts⟩ (fun sz => k_X7_tells l hfl Z hZ X M7 O ((M7.1 26 0 3) - (1 : Int32)) M9 v8 hf10 sz) (cw_RX7_169 (args := args) (s := s) hts (Nat.le_of_ble_eq_true rfl) (Nat.le_of_ble_eq_true rfl)) hE hP hK hS (rv_26 hK hP (by decide)) rfl hl.1 rfl (Nat.le_of_ble_eq_true rfl) dX7_kata_57 ⟨Nat.le_of_ble_eq_true rfl, Nat.le_of_ble_eq_true rfl⟩ (fun H locs hP hS => ?_)
      cases (show some _ = some _ from hk)
      exact we_i hx hb hr hlocks hP rfl hS dX7_kata_60 (by decide) (by decide)
    · have hk := it_t cz4 hk
      refine lv_aload_n hx hb dX7_kata_24 rfl (lv_at hl 0 rfl) ?_
      refine lv_iconst (v := (2 : Int32)) hx hb dX7_kata_25 (by decide) ?_
      obtain ⟨M12, v11, hf13, hk⟩ := b1_s hk
      refine wc_iV0 (rest := []) (As := [.int (2 : Int32)]) ⟨hx, hb, hml, hown, hts⟩ (fun sz => k_X7_fails l hfl Z hZ X M O (2 : Int32) M12 v11 hf13 sz) (cw_RX7_165 (args := args) (s := s) hts (Nat.le_of_ble_eq_true rfl) (Nat.le_of_ble_eq_true rfl)) hE hP hK hS (rv_26 hK hP (by decide)) rfl hl.1 rfl (Nat.le_of_ble_eq_true rfl) dX7_kata_26 ⟨Nat.le_of_ble_eq_true rfl, Nat.le_of_ble_eq_true rfl⟩ (fun H locs hP hS => ?_)
      cases (show some _ = some _ from hk)
      exact we_i hx hb hr hlocks hP rfl hS dX7_kata_29 (by decide) (by decide)
  · have hk := it_t cz3 hk
    refine lv_aload_n hx hb dX7_kata_9 rfl (lv_at hl 0 rfl) ?_
    refine lv_iconst (v := (1 : Int32)) hx hb dX7_kata_10 (by decide) ?_
    obtain ⟨M15, v14, hf16, hk⟩ := b1_s hk
    refine wc_iV0 (rest := []) (As := [.int (1 : Int32)]) ⟨hx, hb, hml, hown, hts⟩ (fun sz => k_X7_fails l hfl Z hZ X M O (1 : Int32) M15 v14 hf16 sz) (cw_RX7_165 (args := args) (s := s) hts (Nat.le_of_ble_eq_true rfl) (Nat.le_of_ble_eq_true rfl)) hE hP hK hS (rv_26 hK hP (by decide)) rfl hl.1 rfl (Nat.le_of_ble_eq_true rfl) dX7_kata_11 ⟨Nat.le_of_ble_eq_true rfl, Nat.le_of_ble_eq_true rfl⟩ (fun H locs hP hS => ?_)
    cases (show some _ = some _ from hk)
    exact we_i hx hb hr hlocks hP rfl hS dX7_kata_14 (by decide) (by decide)
set_option maxHeartbeats 4000000 in
set_option maxRecDepth 100000 in
theorem k_X7_passes (l : Launch) (hfl : l.stackTraces = false) (Z : ZT) (hZ : wD Z) (X M O : SS) (p0 : Int32) (p1 : Int32) (Mz : SS) (r : Int32) (hf : f_X7_passes M p0 p1 = some (Mz, r)) (sz : Nat) : vx_Met l yX7_passes ws_X7_passes rm_X7_passes (va_Pc [.ref (Z.2.2 26 0), .int p0, .int p1] (cP Z (X, M, O) sz)) (cQi Z (X, Mz, O) (.inl r) sz) (cX Z (X, Mz, O) (.inl r : Int32 ⊕ String) sz) 0 0 (wA Z sz) := by
  refine vx_ofW (cc := cX7_passes) (maxL := 5) (ret := (some .boolean)) (by decide) rfl ?_
  intro p e s m args below meth c s₁ B hml htab hv
  obtain ⟨hargs, hsz, hE, hP, hK⟩ := hv
  have hx := B.exec
  have hb := B.bytes
  have hr := B.returns
  have hts0 := atoms_spec (ws := ws_X7_passes) B.pre
  have hts : ∀ w ∈ lw_all, w.before args s = true := fun w h => hts0 w (List.mem_cons_of_mem _ h)
  have hown : s.vm.findClass RX7 = some m.cls := findClass_of_methodNamed B.named
  have hlocks := B.notSynchronized
  have hout9 : ∀ (pc9 : Nat), ∀ x ∈ c.exceptionTable.toList, covers x pc9 = false := fun _ x hx9 => (htab x hx9).elim
  subst hsz
  have hS : va_S (wA Z s.heap.size) s.heap s.heap [] := va_S.rf
  have hl := lv_entry ([.ref (Z.2.2 26 0), .int p0, .int p1]) (n := 5) (Nat.le_of_ble_eq_true rfl)
  have hen : entryFrame m args 5 = entryFrame m ([.ref (Z.2.2 26 0), .int p0, .int p1] : List Value).toArray 5 := by rw [hargs]
  rw [hen, lg_entry_eq]
  generalize (lg_sl ([.ref (Z.2.2 26 0), .int p0, .int p1]) ++ List.replicate (5 - (lg_sl ([.ref (Z.2.2 26 0), .int p0, .int p1])).length) Slot.unset).toArray = ls at hl ⊢
  have hl : lv_has ls 5 [(0, .ref (Z.2.2 26 0)), (1, .int p0), (2, .int p1)] := hl
  have hk := hf
  unfold f_X7_passes at hk
  refine lv_iconst (v := (1 : Int32)) hx hb dX7_passes_0 (by decide) ?_
  refine lv_istore_n (lv' := [(3, .int (1 : Int32)), (0, .ref (Z.2.2 26 0)), (1, .int p0), (2, .int p1)]) hx hb dX7_passes_1 rfl hl (by decide) rfl (fun ls hl => ?_)
  refine lv_iconst (v := (0 : Int32)) hx hb dX7_passes_2 (by decide) ?_
  refine lv_istore (lv' := [(4, .int (0 : Int32)), (3, .int (1 : Int32)), (0, .ref (Z.2.2 26 0)), (1, .int p0), (2, .int p1)]) hx hb dX7_passes_3 hl (by decide) rfl (fun ls hl => ?_)
  obtain ⟨k1, hk1, hk⟩ := gn hk
  have ex1 : ∀ (v2 : Int32) (M3 : SS) (H : Heap) (locs : List Loc) (ls : Array Slot), k1 v2 M3 = some (Mz, r) → wP Z (X, M3, O) H → va_S (wA Z s.heap.size) s.heap H locs → lv_has ls 5 [(3, .int v2)] → W p l e (headSpec ws_X7_passes rm_X7_passes).room s m args below meth c H locs 0 0 (vx_MQ below (cQi Z (X, Mz, O) (.inl r) s.heap.size) (cX Z (X, Mz, O) (.inl r : Int32 ⊕ String) s.heap.size) args s 0 0 (wA Z s.heap.size)) (F0 m 48 ls []) := by
    intro v2 M3 H locs ls hk hP hS hl
    subst hk1
    refine lv_iload_n hx hb dX7_passes_48 rfl (lv_at hl 0 rfl) ?_
    obtain ⟨hg7, hk⟩ := gd_s hk
    cases (show some _ = some _ from hk)
    exact we_z hx hb hr hlocks hg7.1 hP rfl hS dX7_passes_49 (by decide) (by decide)
  have lp1 : ∀ (n : Nat) (v4 : Int32) (v5 : Int32) (M6 : SS) (H : Heap) (locs : List Loc) (ls : Array Slot), f_X7_passes_L5 p1 p0 n v4 v5 M6 k1 = some (Mz, r) → wP Z (X, M6, O) H → va_S (wA Z s.heap.size) s.heap H locs → lv_has ls 5 [(4, .int v4), (3, .int v5), (0, .ref (Z.2.2 26 0)), (1, .int p0), (2, .int p1)] → W p l e (headSpec ws_X7_passes rm_X7_passes).room s m args below meth c H locs 0 0 (vx_MQ below (cQi Z (X, Mz, O) (.inl r) s.heap.size) (cX Z (X, Mz, O) (.inl r : Int32 ⊕ String) s.heap.size) args s 0 0 (wA Z s.heap.size)) (F0 m 5 ls []) := by
    intro n
    induction n with
    | zero =>
      intro v4 v5 M6 H locs ls hk
      rw [f_X7_passes_L5] at hk
      exact nomatch (show none = some _ from hk)
    | succ n ih =>
      intro v4 v5 M6 H locs ls hk hP hS hl
      rw [f_X7_passes_L5] at hk
      refine lv_iload hx hb dX7_passes_5 (lv_at hl 0 rfl) ?_
      refine lv_aload_n hx hb dX7_passes_7 rfl (lv_at hl 2 rfl) ?_
      refine gf_RX7_60 hx hb hts hown hK hP (by decide) dX7_passes_8 ?_
      refine lv_iload_n hx hb dX7_passes_11 rfl (lv_at hl 4 rfl) ?_
      obtain ⟨hg8, hk⟩ := gd_s hk
      refine wa_iaload_33 hx hb hK hP (by decide) hg8 dX7_passes_12 ?_
      refine lv_icmp_ge (tgt := 48) hx hb dX7_passes_13 (by decide) (fun cz9 => ?_) (fun cz9 => ?_)
      · have hk := it_t cz9 hk
        exact ex1 v5 M6 _ _ _ hk hP hS (lv_sub hl [1] rfl)
      · have hk := it_f cz9 hk
        refine lv_iload_n hx hb dX7_passes_16 rfl (lv_at hl 1 rfl) ?_
        refine lv_if_eq (tgt := 48) hx hb dX7_passes_17 (by decide) (fun cz10 => ?_) (fun cz10 => ?_)
        · have hk := it_t cz10 hk
          exact ex1 v5 M6 _ _ _ hk hP hS (lv_sub hl [1] rfl)
        · have hk := it_f cz10 hk
          refine lv_aload_n hx hb dX7_passes_20 rfl (lv_at hl 2 rfl) ?_
          refine lv_iload_n hx hb dX7_passes_21 rfl (lv_at hl 3 rfl) ?_
          refine lv_iconst (v := (5 : Int32)) hx hb dX7_passes_22 (by decide) ?_
          refine lv_iload_n hx hb dX7_passes_23 rfl (lv_at hl 4 rfl) ?_
          refine lv_imul hx hb dX7_passes_24 ?_
          refine lv_iload hx hb dX7_passes_25 (lv_at hl 0 rfl) ?_
          refine lv_iadd hx hb dX7_passes_27 ?_
          obtain ⟨M12, v11, hf13, hk⟩ := b1_s hk
          refine wc_iV0 (rest := []) (As := [.int p0, .int (((5 : Int32) * p1) + v4)]) ⟨hx, hb, hml, hown, hts⟩ (fun sz => k_X7_runs l hfl Z hZ X M6 O p0 (((5 : Int32) * p1) + v4) M12 v11 hf13 sz) (cw_RX7_200 (args := args) (s := s) hts (Nat.le_of_ble_eq_true rfl) (Nat.le_of_ble_eq_true rfl)) hE hP hK hS (rv_26 hK hP (by decide)) rfl hl.1 rfl (Nat.le_of_ble_eq_true rfl) dX7_passes_28 ⟨Nat.le_of_ble_eq_true rfl, Nat.le_of_ble_eq_true rfl⟩ (fun H locs hP hS => ?_)
          refine lv_bipush (v := (111 : Int32)) hx hb dX7_passes_31 (by decide) ?_
          refine lv_icmp_ne (tgt := 40) hx hb dX7_passes_33 (by decide) (fun cz14 => ?_) (fun cz14 => ?_)
          · have hk := it_f cz14 hk
            refine lv_iconst (v := (0 : Int32)) hx hb dX7_passes_40 (by decide) ?_
            refine lv_istore_n (lv' := [(3, .int (0 : Int32)), (4, .int v4), (0, .ref (Z.2.2 26 0)), (1, .int p0), (2, .int p1)]) hx hb dX7_passes_41 rfl hl (by decide) rfl (fun ls hl => ?_)
            refine lv_iinc (v := (v4 + (1 : Int32))) (lv' := [(4, .int (v4 + (1 : Int32))), (3, .int (0 : Int32)), (0, .ref (Z.2.2 26 0)), (1, .int p0), (2, .int p1)]) hx hb dX7_passes_42 hl (k := 1) rfl rfl (by decide) rfl (fun ls hl => ?_)
            refine lv_goto (tgt := 5) hx hb dX7_passes_45 (by decide) ?_
            exact ih (v4 + (1 : Int32)) (0 : Int32) M12 _ _ _ hk hP hS (lv_sub hl [0, 1, 2, 3, 4] rfl)
          · have hk := it_t cz14 hk
            refine lv_iconst (v := (1 : Int32)) hx hb dX7_passes_36 (by decide) ?_
            refine lv_goto (tgt := 41) hx hb dX7_passes_37 (by decide) ?_
            refine lv_istore_n (lv' := [(3, .int (1 : Int32)), (4, .int v4), (0, .ref (Z.2.2 26 0)), (1, .int p0), (2, .int p1)]) hx hb dX7_passes_41 rfl hl (by decide) rfl (fun ls hl => ?_)
            refine lv_iinc (v := (v4 + (1 : Int32))) (lv' := [(4, .int (v4 + (1 : Int32))), (3, .int (1 : Int32)), (0, .ref (Z.2.2 26 0)), (1, .int p0), (2, .int p1)]) hx hb dX7_passes_42 hl (k := 1) rfl rfl (by decide) rfl (fun ls hl => ?_)
            refine lv_goto (tgt := 5) hx hb dX7_passes_45 (by decide) ?_
            exact ih (v4 + (1 : Int32)) (1 : Int32) M12 _ _ _ hk hP hS (lv_sub hl [0, 1, 2, 3, 4] rfl)
  exact lp1 1000 (0 : Int32) (1 : Int32) M _ _ _ hk hP hS (lv_sub hl [0, 1, 2, 3, 4] rfl)
set_option maxHeartbeats 4000000 in
set_option maxRecDepth 100000 in
theorem k_X7_puts (l : Launch) (hfl : l.stackTraces = false) (Z : ZT) (hZ : wD Z) (X M O : SS) (p0 : Int32) (p1 : Int32) (Mz : SS) (r : Int32) (hf : f_X7_puts M p0 p1 = some (Mz, r)) (sz : Nat) : vx_Met l yX7_puts ws_X7_puts rm_X7_puts (va_Pc [.ref (Z.2.2 26 0), .int p0, .int p1] (cP Z (X, M, O) sz)) (cQi Z (X, Mz, O) (.inl r) sz) (cX Z (X, Mz, O) (.inl r : Int32 ⊕ String) sz) 0 0 (wA Z sz) := by
  refine vx_ofW (cc := cX7_puts) (maxL := 8) (ret := (some .int)) (by decide) rfl ?_
  intro p e s m args below meth c s₁ B hml htab hv
  obtain ⟨hargs, hsz, hE, hP, hK⟩ := hv
  have hx := B.exec
  have hb := B.bytes
  have hr := B.returns
  have hts0 := atoms_spec (ws := ws_X7_puts) B.pre
  have hts : ∀ w ∈ lw_all, w.before args s = true := fun w h => hts0 w (List.mem_cons_of_mem _ h)
  have hown : s.vm.findClass RX7 = some m.cls := findClass_of_methodNamed B.named
  have hlocks := B.notSynchronized
  have hout9 : ∀ (pc9 : Nat), ∀ x ∈ c.exceptionTable.toList, covers x pc9 = false := fun _ x hx9 => (htab x hx9).elim
  subst hsz
  have hS : va_S (wA Z s.heap.size) s.heap s.heap [] := va_S.rf
  have hl := lv_entry ([.ref (Z.2.2 26 0), .int p0, .int p1]) (n := 8) (Nat.le_of_ble_eq_true rfl)
  have hen : entryFrame m args 8 = entryFrame m ([.ref (Z.2.2 26 0), .int p0, .int p1] : List Value).toArray 8 := by rw [hargs]
  rw [hen, lg_entry_eq]
  generalize (lg_sl ([.ref (Z.2.2 26 0), .int p0, .int p1]) ++ List.replicate (8 - (lg_sl ([.ref (Z.2.2 26 0), .int p0, .int p1])).length) Slot.unset).toArray = ls at hl ⊢
  have hl : lv_has ls 8 [(0, .ref (Z.2.2 26 0)), (1, .int p0), (2, .int p1)] := hl
  have hk := hf
  unfold f_X7_puts at hk
  refine lv_iconst (v := (5 : Int32)) hx hb dX7_puts_0 (by decide) ?_
  refine lv_iload_n hx hb dX7_puts_1 rfl (lv_at hl 1 rfl) ?_
  refine lv_imul hx hb dX7_puts_2 ?_
  refine lv_iload_n hx hb dX7_puts_3 rfl (lv_at hl 2 rfl) ?_
  refine lv_iadd hx hb dX7_puts_4 ?_
  obtain ⟨v1, ev1, hk⟩ := lq_s hk
  refine W.eq (g2 := F0 m 5 ls [.int v1]) (by rw [ev1]) ?_
  refine lv_istore_n (lv' := [(3, .int v1), (0, .ref (Z.2.2 26 0)), (1, .int p0), (2, .int p1)]) hx hb dX7_puts_5 rfl hl (by decide) rfl (fun ls hl => ?_)
  refine lv_aload_n hx hb dX7_puts_6 rfl (lv_at hl 1 rfl) ?_
  refine gf_RX7_63 hx hb hts hown hK hP (by decide) dX7_puts_7 ?_
  refine lv_iload_n hx hb dX7_puts_10 rfl (lv_at hl 0 rfl) ?_
  refine lv_aload_n hx hb dX7_puts_11 rfl (lv_at hl 1 rfl) ?_
  refine gf_RX7_13 hx hb hts hown hK hP (by decide) dX7_puts_12 ?_
  obtain ⟨hg2, hk⟩ := gd_s hk
  obtain ⟨M3, eM3, hk⟩ := lq_s hk
  refine wa_iastore_34 hx hb hZ hK hP hS (by decide) hg2 dX7_puts_15 (fun H locs hP hS => ?_)
  rw [← eM3] at hP
  refine lv_aload_n hx hb dX7_puts_16 rfl (lv_at hl 1 rfl) ?_
  refine gf_RX7_66 hx hb hts hown hK hP (by decide) dX7_puts_17 ?_
  refine lv_iload_n hx hb dX7_puts_20 rfl (lv_at hl 0 rfl) ?_
  refine lv_aload_n hx hb dX7_puts_21 rfl (lv_at hl 1 rfl) ?_
  refine gf_RX7_16 hx hb hts hown hK hP (by decide) dX7_puts_22 ?_
  obtain ⟨hg4, hk⟩ := gd_s hk
  obtain ⟨M5, eM5, hk⟩ := lq_s hk
  refine wa_iastore_35 hx hb hZ hK hP hS (by decide) hg4 dX7_puts_25 (fun H locs hP hS => ?_)
  rw [← eM5] at hP
  refine lv_iconst (v := (0 : Int32)) hx hb dX7_puts_26 (by decide) ?_
  refine lv_istore (lv' := [(4, .int (0 : Int32)), (3, .int v1), (0, .ref (Z.2.2 26 0)), (1, .int p0), (2, .int p1)]) hx hb dX7_puts_27 hl (by decide) rfl (fun ls hl => ?_)
  obtain ⟨k6, hk6, hk⟩ := gn hk
  have ex6 : ∀ (M7 : SS) (H : Heap) (locs : List Loc) (ls : Array Slot), k6 M7 = some (Mz, r) → wP Z (X, M7, O) H → va_S (wA Z s.heap.size) s.heap H locs → lv_has ls 8 [(3, .int v1), (0, .ref (Z.2.2 26 0)), (1, .int p0)] → W p l e (headSpec ws_X7_puts rm_X7_puts).room s m args below meth c H locs 0 0 (vx_MQ below (cQi Z (X, Mz, O) (.inl r) s.heap.size) (cX Z (X, Mz, O) (.inl r : Int32 ⊕ String) s.heap.size) args s 0 0 (wA Z s.heap.size)) (F0 m 62 ls []) := by
    intro M7 H locs ls hk hP hS hl
    subst hk6
    refine lv_iconst (v := (0 : Int32)) hx hb dX7_puts_62 (by decide) ?_
    refine lv_istore (lv' := [(4, .int (0 : Int32)), (3, .int v1), (0, .ref (Z.2.2 26 0)), (1, .int p0)]) hx hb dX7_puts_63 hl (by decide) rfl (fun ls hl => ?_)
    obtain ⟨k10, hk10, hk⟩ := gn hk
    have ex10 : ∀ (M11 : SS) (H : Heap) (locs : List Loc) (ls : Array Slot), k10 M11 = some (Mz, r) → wP Z (X, M11, O) H → va_S (wA Z s.heap.size) s.heap H locs → lv_has ls 8 [(3, .int v1), (0, .ref (Z.2.2 26 0)), (1, .int p0)] → W p l e (headSpec ws_X7_puts rm_X7_puts).room s m args below meth c H locs 0 0 (vx_MQ below (cQi Z (X, Mz, O) (.inl r) s.heap.size) (cX Z (X, Mz, O) (.inl r : Int32 ⊕ String) s.heap.size) args s 0 0 (wA Z s.heap.size)) (F0 m 99 ls []) := by
      intro M11 H locs ls hk hP hS hl
      subst hk10
      refine lv_aload_n hx hb dX7_puts_99 rfl (lv_at hl 1 rfl) ?_
      obtain ⟨M15, v14, hf16, hk⟩ := b1_s hk
      refine wc_iV0 (rest := []) (As := []) ⟨hx, hb, hml, hown, hts⟩ (fun sz => k_X7_clears l hfl Z hZ X M11 O M15 v14 hf16 sz) (cw_RX7_172 (args := args) (s := s) hts (Nat.le_of_ble_eq_true rfl) (Nat.le_of_ble_eq_true rfl)) hE hP hK hS (rv_26 hK hP (by decide)) rfl hl.1 rfl (Nat.le_of_ble_eq_true rfl) dX7_puts_100 ⟨Nat.le_of_ble_eq_true rfl, Nat.le_of_ble_eq_true rfl⟩ (fun H locs hP hS => ?_)
      refine lv_istore (lv' := [(4, .int v14), (3, .int v1), (0, .ref (Z.2.2 26 0)), (1, .int p0)]) hx hb dX7_puts_103 hl (by decide) rfl (fun ls hl => ?_)
      refine lv_aload_n hx hb dX7_puts_105 rfl (lv_at hl 2 rfl) ?_
      refine lv_dup hx hb dX7_puts_106 rfl ?_
      refine gf_RX7_31 hx hb hts hown hK hP (by decide) dX7_puts_107 ?_
      refine lv_iload hx hb dX7_puts_110 (lv_at hl 0 rfl) ?_
      have jn18 : ∀ (v17 : Int32) (H : Heap) (locs : List Loc) (ls : Array Slot), f_X7_puts_J120 M15 v1 p0 v17 = some (Mz, r) → wP Z (X, M15, O) H → va_S (wA Z s.heap.size) s.heap H locs → lv_has ls 8 [(3, .int v1), (0, .ref (Z.2.2 26 0)), (1, .int p0)] → W p l e (headSpec ws_X7_puts rm_X7_puts).room s m args below meth c H locs 0 0 (vx_MQ below (cQi Z (X, Mz, O) (.inl r) s.heap.size) (cX Z (X, Mz, O) (.inl r : Int32 ⊕ String) s.heap.size) args s 0 0 (wA Z s.heap.size)) (F0 m 120 ls [.int v17, .int (M15.1 26 0 7), .ref (Z.2.2 26 0)]) := by
        intro v17 H locs ls hk hP hS hl
        unfold f_X7_puts_J120 at hk
        refine lv_iadd hx hb dX7_puts_120 ?_
        obtain ⟨M19, eM19, hk⟩ := lq_s hk
        refine pf_RX7_31 hx hb hts hown hZ hK hP hS (by decide) dX7_puts_121 (fun H locs hP hS => ?_)
        rw [← eM19] at hP
        refine lv_aload_n hx hb dX7_puts_124 rfl (lv_at hl 1 rfl) ?_
        refine gf_RX7_75 hx hb hts hown hK hP (by decide) dX7_puts_125 ?_
        refine lv_iload_n hx hb dX7_puts_128 rfl (lv_at hl 0 rfl) ?_
        refine lv_aload_n hx hb dX7_puts_129 rfl (lv_at hl 1 rfl) ?_
        refine gf_RX7_31 hx hb hts hown hK hP (by decide) dX7_puts_130 ?_
        obtain ⟨hg20, hk⟩ := gd_s hk
        obtain ⟨M21, eM21, hk⟩ := lq_s hk
        refine wa_iastore_38 hx hb hZ hK hP hS (by decide) hg20 dX7_puts_133 (fun H locs hP hS => ?_)
        rw [← eM21] at hP
        refine lv_iconst (v := (0 : Int32)) hx hb dX7_puts_134 (by decide) ?_
        refine lv_istore (lv' := [(5, .int (0 : Int32)), (3, .int v1), (0, .ref (Z.2.2 26 0)), (1, .int p0)]) hx hb dX7_puts_135 hl (by decide) rfl (fun ls hl => ?_)
        refine lv_iconst (v := (0 : Int32)) hx hb dX7_puts_137 (by decide) ?_
        refine lv_istore (lv' := [(6, .int (0 : Int32)), (5, .int (0 : Int32)), (3, .int v1), (0, .ref (Z.2.2 26 0)), (1, .int p0)]) hx hb dX7_puts_138 hl (by decide) rfl (fun ls hl => ?_)
        obtain ⟨k22, hk22, hk⟩ := gn hk
        have ex22 : ∀ (v23 : Int32) (M24 : SS) (H : Heap) (locs : List Loc) (ls : Array Slot), k22 v23 M24 = some (Mz, r) → wP Z (X, M24, O) H → va_S (wA Z s.heap.size) s.heap H locs → lv_has ls 8 [(5, .int v23)] → W p l e (headSpec ws_X7_puts rm_X7_puts).room s m args below meth c H locs 0 0 (vx_MQ below (cQi Z (X, Mz, O) (.inl r) s.heap.size) (cX Z (X, Mz, O) (.inl r : Int32 ⊕ String) s.heap.size) args s 0 0 (wA Z s.heap.size)) (F0 m 229 ls []) := by
          intro v23 M24 H locs ls hk hP hS hl
          subst hk22
          refine lv_iload hx hb dX7_puts_229 (lv_at hl 0 rfl) ?_
          cases (show some _ = some _ from hk)
          exact we_i hx hb hr hlocks hP rfl hS dX7_puts_231 (by decide) (by decide)
        have lp22 : ∀ (n : Nat) (v25 : Int32) (v26 : Int32) (M27 : SS) (H : Heap) (locs : List Loc) (ls : Array Slot), f_X7_puts_L140 p0 n v25 v26 M27 k22 = some (Mz, r) → wP Z (X, M27, O) H → va_S (wA Z s.heap.size) s.heap H locs → lv_has ls 8 [(6, .int v25), (5, .int v26), (0, .ref (Z.2.2 26 0)), (1, .int p0)] → W p l e (headSpec ws_X7_puts rm_X7_puts).room s m args below meth c H locs 0 0 (vx_MQ below (cQi Z (X, Mz, O) (.inl r) s.heap.size) (cX Z (X, Mz, O) (.inl r : Int32 ⊕ String) s.heap.size) args s 0 0 (wA Z s.heap.size)) (F0 m 140 ls []) := by
          intro n
          induction n with
          | zero =>
            intro v25 v26 M27 H locs ls hk
            rw [f_X7_puts_L140] at hk
            exact nomatch (show none = some _ from hk)
          | succ n ih =>
            intro v25 v26 M27 H locs ls hk hP hS hl
            rw [f_X7_puts_L140] at hk
            refine lv_iload hx hb dX7_puts_140 (lv_at hl 0 rfl) ?_
            refine lv_aload_n hx hb dX7_puts_142 rfl (lv_at hl 2 rfl) ?_
            refine gf_RX7_25 hx hb hts hown hK hP (by decide) dX7_puts_143 ?_
            refine lv_icmp_ge (tgt := 229) hx hb dX7_puts_146 (by decide) (fun cz28 => ?_) (fun cz28 => ?_)
            · have hk := it_t cz28 hk
              exact ex22 v26 M27 _ _ _ hk hP hS (lv_sub hl [1] rfl)
            · have hk := it_f cz28 hk
              refine lv_aload_n hx hb dX7_puts_149 rfl (lv_at hl 2 rfl) ?_
              refine gf_RX7_91 hx hb hts hown hK hP (by decide) dX7_puts_150 ?_
              refine lv_iload hx hb dX7_puts_153 (lv_at hl 0 rfl) ?_
              obtain ⟨hg29, hk⟩ := gd_s hk
              refine wa_baload_43 hx hb hK hP (by decide) hg29 dX7_puts_155 ?_
              refine lv_if_eq (tgt := 223) hx hb dX7_puts_156 (by decide) (fun cz30 => ?_) (fun cz30 => ?_)
              · have hk := it_t cz30 hk
                refine lv_iinc (v := (v25 + (1 : Int32))) (lv' := [(6, .int (v25 + (1 : Int32))), (5, .int v26), (0, .ref (Z.2.2 26 0)), (1, .int p0)]) hx hb dX7_puts_223 hl (k := 0) rfl rfl (by decide) rfl (fun ls hl => ?_)
                refine lv_goto (tgt := 140) hx hb dX7_puts_226 (by decide) ?_
                exact ih (v25 + (1 : Int32)) v26 M27 _ _ _ hk hP hS (lv_sub hl [0, 1, 2, 3] rfl)
              · have hk := it_f cz30 hk
                refine lv_aload_n hx hb dX7_puts_159 rfl (lv_at hl 2 rfl) ?_
                refine gf_RX7_81 hx hb hts hown hK hP (by decide) dX7_puts_160 ?_
                refine lv_iload hx hb dX7_puts_163 (lv_at hl 0 rfl) ?_
                obtain ⟨hg31, hk⟩ := gd_s hk
                refine wa_iaload_40 hx hb hK hP (by decide) hg31 dX7_puts_165 ?_
                refine lv_iload_n hx hb dX7_puts_166 rfl (lv_at hl 3 rfl) ?_
                refine lv_icmp_eq (tgt := 173) hx hb dX7_puts_167 (by decide) (fun cz32 => ?_) (fun cz32 => ?_)
                · have hk := it_t cz32 hk
                  refine lv_aload_n hx hb dX7_puts_173 rfl (lv_at hl 2 rfl) ?_
                  refine lv_iload hx hb dX7_puts_174 (lv_at hl 0 rfl) ?_
                  refine lv_iload_n hx hb dX7_puts_176 rfl (lv_at hl 3 rfl) ?_
                  obtain ⟨M34, v33, hf35, hk⟩ := b1_s hk
                  refine wc_iV0 (rest := []) (As := [.int v25, .int p0]) ⟨hx, hb, hml, hown, hts⟩ (fun sz => k_X7_passes l hfl Z hZ X M27 O v25 p0 M34 v33 hf35 sz) (cw_RX7_196 (args := args) (s := s) hts (Nat.le_of_ble_eq_true rfl) (Nat.le_of_ble_eq_true rfl)) hE hP hK hS (rv_26 hK hP (by decide)) rfl hl.1 rfl (Nat.le_of_ble_eq_true rfl) dX7_puts_177 ⟨Nat.le_of_ble_eq_true rfl, Nat.le_of_ble_eq_true rfl⟩ (fun H locs hP hS => ?_)
                  have jn37 : ∀ (v36 : Int32) (H : Heap) (locs : List Loc) (ls : Array Slot), f_X7_puts_J190 (f_X7_puts_L140 p0 n) k22 v25 M34 v26 v36 = some (Mz, r) → wP Z (X, M34, O) H → va_S (wA Z s.heap.size) s.heap H locs → lv_has ls 8 [(6, .int v25), (5, .int v26), (0, .ref (Z.2.2 26 0)), (1, .int p0)] → W p l e (headSpec ws_X7_puts rm_X7_puts).room s m args below meth c H locs 0 0 (vx_MQ below (cQi Z (X, Mz, O) (.inl r) s.heap.size) (cX Z (X, Mz, O) (.inl r : Int32 ⊕ String) s.heap.size) args s 0 0 (wA Z s.heap.size)) (F0 m 190 ls [.int v36]) := by
                    intro v36 H locs ls hk hP hS hl
                    unfold f_X7_puts_J190 at hk
                    refine lv_istore (lv' := [(7, .int v36), (6, .int v25), (5, .int v26), (0, .ref (Z.2.2 26 0)), (1, .int p0)]) hx hb dX7_puts_190 hl (by decide) rfl (fun ls hl => ?_)
                    refine lv_iload hx hb dX7_puts_192 (lv_at hl 2 rfl) ?_
                    refine lv_iload hx hb dX7_puts_194 (lv_at hl 0 rfl) ?_
                    refine lv_aload_n hx hb dX7_puts_196 rfl (lv_at hl 3 rfl) ?_
                    refine gf_RX7_88 hx hb hts hown hK hP (by decide) dX7_puts_197 ?_
                    refine lv_iload hx hb dX7_puts_200 (lv_at hl 1 rfl) ?_
                    obtain ⟨hg38, hk⟩ := gd_s hk
                    refine wa_caload_42 hx hb hK hP (by decide) hg38 dX7_puts_202 ?_
                    refine lv_icmp_ne (tgt := 210) hx hb dX7_puts_203 (by decide) (fun cz39 => ?_) (fun cz39 => ?_)
                    · have hk := it_f cz39 hk
                      refine lv_iconst (v := (1 : Int32)) hx hb dX7_puts_210 (by decide) ?_
                      refine lv_iadd hx hb dX7_puts_211 ?_
                      obtain ⟨v40, ev40, hk⟩ := lq_s hk
                      refine W.eq (g2 := F0 m 212 ls [.int v40]) (by rw [ev40]) ?_
                      refine lv_istore (lv' := [(5, .int v40), (7, .int v36), (6, .int v25), (0, .ref (Z.2.2 26 0)), (1, .int p0)]) hx hb dX7_puts_212 hl (by decide) rfl (fun ls hl => ?_)
                      refine lv_aload_n hx hb dX7_puts_214 rfl (lv_at hl 3 rfl) ?_
                      refine gf_RX7_88 hx hb hts hown hK hP (by decide) dX7_puts_215 ?_
                      refine lv_iload hx hb dX7_puts_218 (lv_at hl 2 rfl) ?_
                      refine lv_iload hx hb dX7_puts_220 (lv_at hl 1 rfl) ?_
                      obtain ⟨hg41, hk⟩ := gd_s hk
                      obtain ⟨M42, eM42, hk⟩ := lq_s hk
                      refine wa_castore_42 hx hb hZ hK hP hS (by decide) hg41 dX7_puts_222 (fun H locs hP hS => ?_)
                      rw [← eM42] at hP
                      refine lv_iinc (v := (v25 + (1 : Int32))) (lv' := [(6, .int (v25 + (1 : Int32))), (5, .int v40), (7, .int v36), (0, .ref (Z.2.2 26 0)), (1, .int p0)]) hx hb dX7_puts_223 hl (k := 2) rfl rfl (by decide) rfl (fun ls hl => ?_)
                      refine lv_goto (tgt := 140) hx hb dX7_puts_226 (by decide) ?_
                      exact ih (v25 + (1 : Int32)) v40 M42 _ _ _ hk hP hS (lv_sub hl [0, 1, 3, 4] rfl)
                    · have hk := it_t cz39 hk
                      refine lv_iconst (v := (0 : Int32)) hx hb dX7_puts_206 (by decide) ?_
                      refine lv_goto (tgt := 211) hx hb dX7_puts_207 (by decide) ?_
                      refine lv_iadd hx hb dX7_puts_211 ?_
                      obtain ⟨v43, ev43, hk⟩ := lq_s hk
                      refine W.eq (g2 := F0 m 212 ls [.int v43]) (by rw [ev43]) ?_
                      refine lv_istore (lv' := [(5, .int v43), (7, .int v36), (6, .int v25), (0, .ref (Z.2.2 26 0)), (1, .int p0)]) hx hb dX7_puts_212 hl (by decide) rfl (fun ls hl => ?_)
                      refine lv_aload_n hx hb dX7_puts_214 rfl (lv_at hl 3 rfl) ?_
                      refine gf_RX7_88 hx hb hts hown hK hP (by decide) dX7_puts_215 ?_
                      refine lv_iload hx hb dX7_puts_218 (lv_at hl 2 rfl) ?_
                      refine lv_iload hx hb dX7_puts_220 (lv_at hl 1 rfl) ?_
                      obtain ⟨hg44, hk⟩ := gd_s hk
                      obtain ⟨M45, eM45, hk⟩ := lq_s hk
                      refine wa_castore_42 hx hb hZ hK hP hS (by decide) hg44 dX7_puts_222 (fun H locs hP hS => ?_)
                      rw [← eM45] at hP
                      refine lv_iinc (v := (v25 + (1 : Int32))) (lv' := [(6, .int (v25 + (1 : Int32))), (5, .int v43), (7, .int v36), (0, .ref (Z.2.2 26 0)), (1, .int p0)]) hx hb dX7_puts_223 hl (k := 2) rfl rfl (by decide) rfl (fun ls hl => ?_)
                      refine lv_goto (tgt := 140) hx hb dX7_puts_226 (by decide) ?_
                      exact ih (v25 + (1 : Int32)) v43 M45 _ _ _ hk hP hS (lv_sub hl [0, 1, 3, 4] rfl)
                  refine lv_if_eq (tgt := 188) hx hb dX7_puts_180 (by decide) (fun cz46 => ?_) (fun cz46 => ?_)
                  · have hk := it_t cz46 hk
                    refine lv_bipush (v := (102 : Int32)) hx hb dX7_puts_188 (by decide) ?_
                    exact jn37 (102 : Int32) _ _ _ hk hP hS (lv_sub hl [0, 1, 2, 3] rfl)
                  · have hk := it_f cz46 hk
                    refine lv_bipush (v := (115 : Int32)) hx hb dX7_puts_183 (by decide) ?_
                    refine lv_goto (tgt := 190) hx hb dX7_puts_185 (by decide) ?_
                    exact jn37 (115 : Int32) _ _ _ hk hP hS (lv_sub hl [0, 1, 2, 3] rfl)
                · have hk := it_f cz32 hk
                  refine lv_goto (tgt := 223) hx hb dX7_puts_170 (by decide) ?_
                  refine lv_iinc (v := (v25 + (1 : Int32))) (lv' := [(6, .int (v25 + (1 : Int32))), (5, .int v26), (0, .ref (Z.2.2 26 0)), (1, .int p0)]) hx hb dX7_puts_223 hl (k := 0) rfl rfl (by decide) rfl (fun ls hl => ?_)
                  refine lv_goto (tgt := 140) hx hb dX7_puts_226 (by decide) ?_
                  exact ih (v25 + (1 : Int32)) v26 M27 _ _ _ hk hP hS (lv_sub hl [0, 1, 2, 3] rfl)
        exact lp22 1000 (0 : Int32) (0 : Int32) M21 _ _ _ hk hP hS (lv_sub hl [0, 1, 3, 4] rfl)
      refine lv_if_lt (tgt := 119) hx hb dX7_puts_112 (by decide) (fun cz47 => ?_) (fun cz47 => ?_)
      · have hk := it_t cz47 hk
        refine lv_iconst (v := (0 : Int32)) hx hb dX7_puts_119 (by decide) ?_
        exact jn18 (0 : Int32) _ _ _ hk hP hS (lv_sub hl [1, 2, 3] rfl)
      · have hk := it_f cz47 hk
        refine lv_iconst (v := (1 : Int32)) hx hb dX7_puts_115 (by decide) ?_
        refine lv_goto (tgt := 120) hx hb dX7_puts_116 (by decide) ?_
        exact jn18 (1 : Int32) _ _ _ hk hP hS (lv_sub hl [1, 2, 3] rfl)
    have lp10 : ∀ (n : Nat) (v12 : Int32) (M13 : SS) (H : Heap) (locs : List Loc) (ls : Array Slot), f_X7_puts_L65 v1 n v12 M13 k10 = some (Mz, r) → wP Z (X, M13, O) H → va_S (wA Z s.heap.size) s.heap H locs → lv_has ls 8 [(4, .int v12), (3, .int v1), (0, .ref (Z.2.2 26 0)), (1, .int p0)] → W p l e (headSpec ws_X7_puts rm_X7_puts).room s m args below meth c H locs 0 0 (vx_MQ below (cQi Z (X, Mz, O) (.inl r) s.heap.size) (cX Z (X, Mz, O) (.inl r : Int32 ⊕ String) s.heap.size) args s 0 0 (wA Z s.heap.size)) (F0 m 65 ls []) := by
      intro n
      induction n with
      | zero =>
        intro v12 M13 H locs ls hk
        rw [f_X7_puts_L65] at hk
        exact nomatch (show none = some _ from hk)
      | succ n ih =>
        intro v12 M13 H locs ls hk hP hS hl
        rw [f_X7_puts_L65] at hk
        refine lv_iload hx hb dX7_puts_65 (lv_at hl 0 rfl) ?_
        refine lv_aload_n hx hb dX7_puts_67 rfl (lv_at hl 2 rfl) ?_
        refine gf_RX7_16 hx hb hts hown hK hP (by decide) dX7_puts_68 ?_
        refine lv_icmp_ge (tgt := 99) hx hb dX7_puts_71 (by decide) (fun cz48 => ?_) (fun cz48 => ?_)
        · have hk := it_t cz48 hk
          exact ex10 M13 _ _ _ hk hP hS (lv_sub hl [1, 2, 3] rfl)
        · have hk := it_f cz48 hk
          refine lv_aload_n hx hb dX7_puts_74 rfl (lv_at hl 2 rfl) ?_
          refine gf_RX7_72 hx hb hts hown hK hP (by decide) dX7_puts_75 ?_
          refine lv_bipush (v := (6 : Int32)) hx hb dX7_puts_78 (by decide) ?_
          refine lv_iload_n hx hb dX7_puts_80 rfl (lv_at hl 1 rfl) ?_
          refine lv_imul hx hb dX7_puts_81 ?_
          refine lv_iload hx hb dX7_puts_82 (lv_at hl 0 rfl) ?_
          refine lv_iadd hx hb dX7_puts_84 ?_
          refine lv_aload_n hx hb dX7_puts_85 rfl (lv_at hl 2 rfl) ?_
          refine gf_RX7_54 hx hb hts hown hK hP (by decide) dX7_puts_86 ?_
          refine lv_iload hx hb dX7_puts_89 (lv_at hl 0 rfl) ?_
          obtain ⟨hg49, hk⟩ := gd_s hk
          refine wa_iaload_31 hx hb hK hP (by decide) hg49 dX7_puts_91 ?_
          obtain ⟨hg50, hk⟩ := gd_s hk
          obtain ⟨M51, eM51, hk⟩ := lq_s hk
          refine wa_iastore_37 hx hb hZ hK hP hS (by decide) hg50 dX7_puts_92 (fun H locs hP hS => ?_)
          rw [← eM51] at hP
          refine lv_iinc (v := (v12 + (1 : Int32))) (lv' := [(4, .int (v12 + (1 : Int32))), (3, .int v1), (0, .ref (Z.2.2 26 0)), (1, .int p0)]) hx hb dX7_puts_93 hl (k := 0) rfl rfl (by decide) rfl (fun ls hl => ?_)
          refine lv_goto (tgt := 65) hx hb dX7_puts_96 (by decide) ?_
          exact ih (v12 + (1 : Int32)) M51 _ _ _ hk hP hS (lv_sub hl [0, 1, 2, 3] rfl)
    exact lp10 1000 (0 : Int32) M7 _ _ _ hk hP hS (lv_sub hl [0, 1, 2, 3] rfl)
  have lp6 : ∀ (n : Nat) (v8 : Int32) (M9 : SS) (H : Heap) (locs : List Loc) (ls : Array Slot), f_X7_puts_L29 v1 n v8 M9 k6 = some (Mz, r) → wP Z (X, M9, O) H → va_S (wA Z s.heap.size) s.heap H locs → lv_has ls 8 [(4, .int v8), (3, .int v1), (0, .ref (Z.2.2 26 0)), (1, .int p0)] → W p l e (headSpec ws_X7_puts rm_X7_puts).room s m args below meth c H locs 0 0 (vx_MQ below (cQi Z (X, Mz, O) (.inl r) s.heap.size) (cX Z (X, Mz, O) (.inl r : Int32 ⊕ String) s.heap.size) args s 0 0 (wA Z s.heap.size)) (F0 m 29 ls []) := by
    intro n
    induction n with
    | zero =>
      intro v8 M9 H locs ls hk
      rw [f_X7_puts_L29] at hk
      exact nomatch (show none = some _ from hk)
    | succ n ih =>
      intro v8 M9 H locs ls hk hP hS hl
      rw [f_X7_puts_L29] at hk
      refine lv_iload hx hb dX7_puts_29 (lv_at hl 0 rfl) ?_
      refine lv_aload_n hx hb dX7_puts_31 rfl (lv_at hl 2 rfl) ?_
      refine gf_RX7_13 hx hb hts hown hK hP (by decide) dX7_puts_32 ?_
      refine lv_icmp_ge (tgt := 62) hx hb dX7_puts_35 (by decide) (fun cz52 => ?_) (fun cz52 => ?_)
      · have hk := it_t cz52 hk
        exact ex6 M9 _ _ _ hk hP hS (lv_sub hl [1, 2, 3] rfl)
      · have hk := it_f cz52 hk
        refine lv_aload_n hx hb dX7_puts_38 rfl (lv_at hl 2 rfl) ?_
        refine gf_RX7_69 hx hb hts hown hK hP (by decide) dX7_puts_39 ?_
        refine lv_iconst (v := (4 : Int32)) hx hb dX7_puts_42 (by decide) ?_
        refine lv_iload_n hx hb dX7_puts_43 rfl (lv_at hl 1 rfl) ?_
        refine lv_imul hx hb dX7_puts_44 ?_
        refine lv_iload hx hb dX7_puts_45 (lv_at hl 0 rfl) ?_
        refine lv_iadd hx hb dX7_puts_47 ?_
        refine lv_aload_n hx hb dX7_puts_48 rfl (lv_at hl 2 rfl) ?_
        refine gf_RX7_51 hx hb hts hown hK hP (by decide) dX7_puts_49 ?_
        refine lv_iload hx hb dX7_puts_52 (lv_at hl 0 rfl) ?_
        obtain ⟨hg53, hk⟩ := gd_s hk
        refine wa_iaload_30 hx hb hK hP (by decide) hg53 dX7_puts_54 ?_
        obtain ⟨hg54, hk⟩ := gd_s hk
        obtain ⟨M55, eM55, hk⟩ := lq_s hk
        refine wa_iastore_36 hx hb hZ hK hP hS (by decide) hg54 dX7_puts_55 (fun H locs hP hS => ?_)
        rw [← eM55] at hP
        refine lv_iinc (v := (v8 + (1 : Int32))) (lv' := [(4, .int (v8 + (1 : Int32))), (3, .int v1), (0, .ref (Z.2.2 26 0)), (1, .int p0)]) hx hb dX7_puts_56 hl (k := 0) rfl rfl (by decide) rfl (fun ls hl => ?_)
        refine lv_goto (tgt := 29) hx hb dX7_puts_59 (by decide) ?_
        exact ih (v8 + (1 : Int32)) M55 _ _ _ hk hP hS (lv_sub hl [0, 1, 2, 3] rfl)
  exact lp6 1000 (0 : Int32) M5 _ _ _ hk hP hS (lv_sub hl [0, 1, 2, 3] rfl)
set_option maxHeartbeats 4000000 in
set_option maxRecDepth 100000 in
theorem k_X7_test (l : Launch) (hfl : l.stackTraces = false) (Z : ZT) (hZ : wD Z) (X M O : SS) (p0 : Int32) (Mz : SS) (r : Int32) (hf : f_X7_test M p0 = some (Mz, r)) (sz : Nat) : vx_Met l yX7_test ws_X7_test rm_X7_test (va_Pc [.ref (Z.2.2 26 0), .int p0] (cP Z (X, M, O) sz)) (cQi Z (X, Mz, O) (.inl r) sz) (cX Z (X, Mz, O) (.inl r : Int32 ⊕ String) sz) 0 0 (wA Z sz) := by
  refine vx_ofW (cc := cX7_test) (maxL := 2) (ret := (some .int)) (by decide) rfl ?_
  intro p e s m args below meth c s₁ B hml htab hv
  obtain ⟨hargs, hsz, hE, hP, hK⟩ := hv
  have hx := B.exec
  have hb := B.bytes
  have hr := B.returns
  have hts0 := atoms_spec (ws := ws_X7_test) B.pre
  have hts : ∀ w ∈ lw_all, w.before args s = true := fun w h => hts0 w (List.mem_cons_of_mem _ h)
  have hown : s.vm.findClass RX7 = some m.cls := findClass_of_methodNamed B.named
  have hlocks := B.notSynchronized
  have hout9 : ∀ (pc9 : Nat), ∀ x ∈ c.exceptionTable.toList, covers x pc9 = false := fun _ x hx9 => (htab x hx9).elim
  subst hsz
  have hS : va_S (wA Z s.heap.size) s.heap s.heap [] := va_S.rf
  have hl := lv_entry ([.ref (Z.2.2 26 0), .int p0]) (n := 2) (Nat.le_of_ble_eq_true rfl)
  have hen : entryFrame m args 2 = entryFrame m ([.ref (Z.2.2 26 0), .int p0] : List Value).toArray 2 := by rw [hargs]
  rw [hen, lg_entry_eq]
  generalize (lg_sl ([.ref (Z.2.2 26 0), .int p0]) ++ List.replicate (2 - (lg_sl ([.ref (Z.2.2 26 0), .int p0])).length) Slot.unset).toArray = ls at hl ⊢
  have hl : lv_has ls 2 [(0, .ref (Z.2.2 26 0)), (1, .int p0)] := hl
  have hk := hf
  unfold f_X7_test at hk
  refine lv_aload_n hx hb dX7_test_0 rfl (lv_at hl 0 rfl) ?_
  refine lv_iload_n hx hb dX7_test_1 rfl (lv_at hl 1 rfl) ?_
  obtain ⟨v1, hf2, hk⟩ := b0_s hk
  refine wc_iV0 (rest := []) (As := [.int p0]) ⟨hx, hb, hml, hown, hts⟩ (fun sz => k_X7_isKata l hfl Z hZ X M O p0 v1 hf2 sz) (cw_RX7_192 (args := args) (s := s) hts (Nat.le_of_ble_eq_true rfl) (Nat.le_of_ble_eq_true rfl)) hE hP hK hS (rv_26 hK hP (by decide)) rfl hl.1 rfl (Nat.le_of_ble_eq_true rfl) dX7_test_2 ⟨Nat.le_of_ble_eq_true rfl, Nat.le_of_ble_eq_true rfl⟩ (fun H locs hP hS => ?_)
  refine lv_if_ne (tgt := 14) hx hb dX7_test_5 (by decide) (fun cz3 => ?_) (fun cz3 => ?_)
  · have hk := it_f cz3 hk
    refine lv_aload_n hx hb dX7_test_14 rfl (lv_at hl 0 rfl) ?_
    refine gf_RX7_60 hx hb hts hown hK hP (by decide) dX7_test_15 ?_
    refine lv_iload_n hx hb dX7_test_18 rfl (lv_at hl 1 rfl) ?_
    obtain ⟨hg4, hk⟩ := gd_s hk
    refine wa_iaload_33 hx hb hK hP (by decide) hg4 dX7_test_19 ?_
    refine lv_iconst (v := (5 : Int32)) hx hb dX7_test_20 (by decide) ?_
    refine lv_icmp_ne (tgt := 30) hx hb dX7_test_21 (by decide) (fun cz5 => ?_) (fun cz5 => ?_)
    · have hk := it_f cz5 hk
      refine lv_aload_n hx hb dX7_test_30 rfl (lv_at hl 0 rfl) ?_
      refine gf_RX7_60 hx hb hts hown hK hP (by decide) dX7_test_31 ?_
      refine lv_iload_n hx hb dX7_test_34 rfl (lv_at hl 1 rfl) ?_
      refine lv_dup2_11 hx hb dX7_test_35 rfl rfl ?_
      obtain ⟨hg6, hk⟩ := gd_s hk
      refine wa_iaload_33 hx hb hK hP (by decide) hg6 dX7_test_36 ?_
      refine lv_iconst (v := (1 : Int32)) hx hb dX7_test_37 (by decide) ?_
      refine lv_iadd hx hb dX7_test_38 ?_
      obtain ⟨hg7, hk⟩ := gd_s hk
      obtain ⟨M8, eM8, hk⟩ := lq_s hk
      refine wa_iastore_33 hx hb hZ hK hP hS (by decide) hg7 dX7_test_39 (fun H locs hP hS => ?_)
      rw [← eM8] at hP
      refine lv_aload_n hx hb dX7_test_40 rfl (lv_at hl 0 rfl) ?_
      refine lv_aload_n hx hb dX7_test_41 rfl (lv_at hl 0 rfl) ?_
      refine lv_iload_n hx hb dX7_test_42 rfl (lv_at hl 1 rfl) ?_
      refine lv_aload_n hx hb dX7_test_43 rfl (lv_at hl 0 rfl) ?_
      refine gf_RX7_60 hx hb hts hown hK hP (by decide) dX7_test_44 ?_
      refine lv_iload_n hx hb dX7_test_47 rfl (lv_at hl 1 rfl) ?_
      obtain ⟨hg9, hk⟩ := gd_s hk
      refine wa_iaload_33 hx hb hK hP (by decide) hg9 dX7_test_48 ?_
      refine lv_iconst (v := (1 : Int32)) hx hb dX7_test_49 (by decide) ?_
      refine lv_isub hx hb dX7_test_50 ?_
      obtain ⟨M11, v10, hf12, hk⟩ := b1_s hk
      refine wc_iV0 (rest := [.ref (Z.2.2 26 0)]) (As := [.int p0, .int ((M8.1 33 0 (p0).toNatClampNeg) - (1 : Int32))]) ⟨hx, hb, hml, hown, hts⟩ (fun sz => k_X7_puts l hfl Z hZ X M8 O p0 ((M8.1 33 0 (p0).toNatClampNeg) - (1 : Int32)) M11 v10 hf12 sz) (cw_RX7_204 (args := args) (s := s) hts (Nat.le_of_ble_eq_true rfl) (Nat.le_of_ble_eq_true rfl)) hE hP hK hS (rv_26 hK hP (by decide)) rfl hl.1 rfl (Nat.le_of_ble_eq_true rfl) dX7_test_51 ⟨Nat.le_of_ble_eq_true rfl, Nat.le_of_ble_eq_true rfl⟩ (fun H locs hP hS => ?_)
      obtain ⟨M14, v13, hf15, hk⟩ := b1_s hk
      refine wc_iV0 (rest := []) (As := [.int v10]) ⟨hx, hb, hml, hown, hts⟩ (fun sz => k_X7_tells l hfl Z hZ X M11 O v10 M14 v13 hf15 sz) (cw_RX7_169 (args := args) (s := s) hts (Nat.le_of_ble_eq_true rfl) (Nat.le_of_ble_eq_true rfl)) hE hP hK hS (rv_26 hK hP (by decide)) rfl hl.1 rfl (Nat.le_of_ble_eq_true rfl) dX7_test_54 ⟨Nat.le_of_ble_eq_true rfl, Nat.le_of_ble_eq_true rfl⟩ (fun H locs hP hS => ?_)
      cases (show some _ = some _ from hk)
      exact we_i hx hb hr hlocks hP rfl hS dX7_test_57 (by decide) (by decide)
    · have hk := it_t cz5 hk
      refine lv_aload_n hx hb dX7_test_24 rfl (lv_at hl 0 rfl) ?_
      refine lv_iconst (v := (2 : Int32)) hx hb dX7_test_25 (by decide) ?_
      obtain ⟨M17, v16, hf18, hk⟩ := b1_s hk
      refine wc_iV0 (rest := []) (As := [.int (2 : Int32)]) ⟨hx, hb, hml, hown, hts⟩ (fun sz => k_X7_fails l hfl Z hZ X M O (2 : Int32) M17 v16 hf18 sz) (cw_RX7_165 (args := args) (s := s) hts (Nat.le_of_ble_eq_true rfl) (Nat.le_of_ble_eq_true rfl)) hE hP hK hS (rv_26 hK hP (by decide)) rfl hl.1 rfl (Nat.le_of_ble_eq_true rfl) dX7_test_26 ⟨Nat.le_of_ble_eq_true rfl, Nat.le_of_ble_eq_true rfl⟩ (fun H locs hP hS => ?_)
      cases (show some _ = some _ from hk)
      exact we_i hx hb hr hlocks hP rfl hS dX7_test_29 (by decide) (by decide)
  · have hk := it_t cz3 hk
    refine lv_aload_n hx hb dX7_test_8 rfl (lv_at hl 0 rfl) ?_
    refine lv_iconst (v := (1 : Int32)) hx hb dX7_test_9 (by decide) ?_
    obtain ⟨M20, v19, hf21, hk⟩ := b1_s hk
    refine wc_iV0 (rest := []) (As := [.int (1 : Int32)]) ⟨hx, hb, hml, hown, hts⟩ (fun sz => k_X7_fails l hfl Z hZ X M O (1 : Int32) M20 v19 hf21 sz) (cw_RX7_165 (args := args) (s := s) hts (Nat.le_of_ble_eq_true rfl) (Nat.le_of_ble_eq_true rfl)) hE hP hK hS (rv_26 hK hP (by decide)) rfl hl.1 rfl (Nat.le_of_ble_eq_true rfl) dX7_test_10 ⟨Nat.le_of_ble_eq_true rfl, Nat.le_of_ble_eq_true rfl⟩ (fun H locs hP hS => ?_)
    cases (show some _ = some _ from hk)
    exact we_i hx hb hr hlocks hP rfl hS dX7_test_13 (by decide) (by decide)
set_option maxHeartbeats 4000000 in
set_option maxRecDepth 100000 in
theorem k_X7_fix (l : Launch) (hfl : l.stackTraces = false) (Z : ZT) (hZ : wD Z) (X M O : SS) (p0 : Int32) (p1 : Int32) (Mz : SS) (r : Int32) (hf : f_X7_fix M p0 p1 = some (Mz, r)) (sz : Nat) : vx_Met l yX7_fix ws_X7_fix rm_X7_fix (va_Pc [.ref (Z.2.2 26 0), .int p0, .int p1] (cP Z (X, M, O) sz)) (cQi Z (X, Mz, O) (.inl r) sz) (cX Z (X, Mz, O) (.inl r : Int32 ⊕ String) sz) 0 0 (wA Z sz) := by
  refine vx_ofW (cc := cX7_fix) (maxL := 3) (ret := (some .int)) (by decide) rfl ?_
  intro p e s m args below meth c s₁ B hml htab hv
  obtain ⟨hargs, hsz, hE, hP, hK⟩ := hv
  have hx := B.exec
  have hb := B.bytes
  have hr := B.returns
  have hts0 := atoms_spec (ws := ws_X7_fix) B.pre
  have hts : ∀ w ∈ lw_all, w.before args s = true := fun w h => hts0 w (List.mem_cons_of_mem _ h)
  have hown : s.vm.findClass RX7 = some m.cls := findClass_of_methodNamed B.named
  have hlocks := B.notSynchronized
  have hout9 : ∀ (pc9 : Nat), ∀ x ∈ c.exceptionTable.toList, covers x pc9 = false := fun _ x hx9 => (htab x hx9).elim
  subst hsz
  have hS : va_S (wA Z s.heap.size) s.heap s.heap [] := va_S.rf
  have hl := lv_entry ([.ref (Z.2.2 26 0), .int p0, .int p1]) (n := 3) (Nat.le_of_ble_eq_true rfl)
  have hen : entryFrame m args 3 = entryFrame m ([.ref (Z.2.2 26 0), .int p0, .int p1] : List Value).toArray 3 := by rw [hargs]
  rw [hen, lg_entry_eq]
  generalize (lg_sl ([.ref (Z.2.2 26 0), .int p0, .int p1]) ++ List.replicate (3 - (lg_sl ([.ref (Z.2.2 26 0), .int p0, .int p1])).length) Slot.unset).toArray = ls at hl ⊢
  have hl : lv_has ls 3 [(0, .ref (Z.2.2 26 0)), (1, .int p0), (2, .int p1)] := hl
  have hk := hf
  unfold f_X7_fix at hk
  refine lv_aload_n hx hb dX7_fix_0 rfl (lv_at hl 0 rfl) ?_
  refine lv_iload_n hx hb dX7_fix_1 rfl (lv_at hl 1 rfl) ?_
  refine lv_iload_n hx hb dX7_fix_2 rfl (lv_at hl 2 rfl) ?_
  obtain ⟨v1, hf2, hk⟩ := b0_s hk
  refine wc_iV0 (rest := []) (As := [.int p0, .int p1]) ⟨hx, hb, hml, hown, hts⟩ (fun sz => k_X7_isTest l hfl Z hZ X M O p0 p1 v1 hf2 sz) (cw_RX7_208 (args := args) (s := s) hts (Nat.le_of_ble_eq_true rfl) (Nat.le_of_ble_eq_true rfl)) hE hP hK hS (rv_26 hK hP (by decide)) rfl hl.1 rfl (Nat.le_of_ble_eq_true rfl) dX7_fix_3 ⟨Nat.le_of_ble_eq_true rfl, Nat.le_of_ble_eq_true rfl⟩ (fun H locs hP hS => ?_)
  refine lv_if_eq (tgt := 22) hx hb dX7_fix_6 (by decide) (fun cz3 => ?_) (fun cz3 => ?_)
  · have hk := it_t cz3 hk
    refine lv_aload_n hx hb dX7_fix_22 rfl (lv_at hl 0 rfl) ?_
    refine lv_iconst (v := (1 : Int32)) hx hb dX7_fix_23 (by decide) ?_
    obtain ⟨M5, v4, hf6, hk⟩ := b1_s hk
    refine wc_iV0 (rest := []) (As := [.int (1 : Int32)]) ⟨hx, hb, hml, hown, hts⟩ (fun sz => k_X7_fails l hfl Z hZ X M O (1 : Int32) M5 v4 hf6 sz) (cw_RX7_165 (args := args) (s := s) hts (Nat.le_of_ble_eq_true rfl) (Nat.le_of_ble_eq_true rfl)) hE hP hK hS (rv_26 hK hP (by decide)) rfl hl.1 rfl (Nat.le_of_ble_eq_true rfl) dX7_fix_24 ⟨Nat.le_of_ble_eq_true rfl, Nat.le_of_ble_eq_true rfl⟩ (fun H locs hP hS => ?_)
    cases (show some _ = some _ from hk)
    exact we_i hx hb hr hlocks hP rfl hS dX7_fix_27 (by decide) (by decide)
  · have hk := it_f cz3 hk
    refine lv_aload_n hx hb dX7_fix_9 rfl (lv_at hl 0 rfl) ?_
    refine lv_aload_n hx hb dX7_fix_10 rfl (lv_at hl 0 rfl) ?_
    refine lv_iload_n hx hb dX7_fix_11 rfl (lv_at hl 1 rfl) ?_
    refine lv_iload_n hx hb dX7_fix_12 rfl (lv_at hl 2 rfl) ?_
    obtain ⟨M8, v7, hf9, hk⟩ := b1_s hk
    refine wc_iV0 (rest := [.ref (Z.2.2 26 0)]) (As := [.int p0, .int p1]) ⟨hx, hb, hml, hown, hts⟩ (fun sz => k_X7_puts l hfl Z hZ X M O p0 p1 M8 v7 hf9 sz) (cw_RX7_204 (args := args) (s := s) hts (Nat.le_of_ble_eq_true rfl) (Nat.le_of_ble_eq_true rfl)) hE hP hK hS (rv_26 hK hP (by decide)) rfl hl.1 rfl (Nat.le_of_ble_eq_true rfl) dX7_fix_13 ⟨Nat.le_of_ble_eq_true rfl, Nat.le_of_ble_eq_true rfl⟩ (fun H locs hP hS => ?_)
    obtain ⟨M11, v10, hf12, hk⟩ := b1_s hk
    refine wc_iV0 (rest := []) (As := [.int v7]) ⟨hx, hb, hml, hown, hts⟩ (fun sz => k_X7_tells l hfl Z hZ X M8 O v7 M11 v10 hf12 sz) (cw_RX7_169 (args := args) (s := s) hts (Nat.le_of_ble_eq_true rfl) (Nat.le_of_ble_eq_true rfl)) hE hP hK hS (rv_26 hK hP (by decide)) rfl hl.1 rfl (Nat.le_of_ble_eq_true rfl) dX7_fix_16 ⟨Nat.le_of_ble_eq_true rfl, Nat.le_of_ble_eq_true rfl⟩ (fun H locs hP hS => ?_)
    refine lv_goto (tgt := 27) hx hb dX7_fix_19 (by decide) ?_
    cases (show some _ = some _ from hk)
    exact we_i hx hb hr hlocks hP rfl hS dX7_fix_27 (by decide) (by decide)
set_option maxHeartbeats 4000000 in
set_option maxRecDepth 100000 in
theorem k_X7_tests (l : Launch) (hfl : l.stackTraces = false) (Z : ZT) (hZ : wD Z) (X M O : SS) (p0 : Int32) (Mz : SS) (r : Int32) (hf : f_X7_tests M p0 = some (Mz, r)) (sz : Nat) : vx_Met l yX7_tests ws_X7_tests rm_X7_tests (va_Pc [.ref (Z.2.2 26 0), .int p0] (cP Z (X, M, O) sz)) (cQi Z (X, Mz, O) (.inl r) sz) (cX Z (X, Mz, O) (.inl r : Int32 ⊕ String) sz) 0 0 (wA Z sz) := by
  refine vx_ofW (cc := cX7_tests) (maxL := 2) (ret := (some .int)) (by decide) rfl ?_
  intro p e s m args below meth c s₁ B hml htab hv
  obtain ⟨hargs, hsz, hE, hP, hK⟩ := hv
  have hx := B.exec
  have hb := B.bytes
  have hr := B.returns
  have hts0 := atoms_spec (ws := ws_X7_tests) B.pre
  have hts : ∀ w ∈ lw_all, w.before args s = true := fun w h => hts0 w (List.mem_cons_of_mem _ h)
  have hown : s.vm.findClass RX7 = some m.cls := findClass_of_methodNamed B.named
  have hlocks := B.notSynchronized
  have hout9 : ∀ (pc9 : Nat), ∀ x ∈ c.exceptionTable.toList, covers x pc9 = false := fun _ x hx9 => (htab x hx9).elim
  subst hsz
  have hS : va_S (wA Z s.heap.size) s.heap s.heap [] := va_S.rf
  have hl := lv_entry ([.ref (Z.2.2 26 0), .int p0]) (n := 2) (Nat.le_of_ble_eq_true rfl)
  have hen : entryFrame m args 2 = entryFrame m ([.ref (Z.2.2 26 0), .int p0] : List Value).toArray 2 := by rw [hargs]
  rw [hen, lg_entry_eq]
  generalize (lg_sl ([.ref (Z.2.2 26 0), .int p0]) ++ List.replicate (2 - (lg_sl ([.ref (Z.2.2 26 0), .int p0])).length) Slot.unset).toArray = ls at hl ⊢
  have hl : lv_has ls 2 [(0, .ref (Z.2.2 26 0)), (1, .int p0)] := hl
  have hk := hf
  unfold f_X7_tests at hk
  refine lv_aload_n hx hb dX7_tests_0 rfl (lv_at hl 0 rfl) ?_
  refine lv_iload_n hx hb dX7_tests_1 rfl (lv_at hl 1 rfl) ?_
  obtain ⟨v1, hf2, hk⟩ := b0_s hk
  refine wc_iV0 (rest := []) (As := [.int p0]) ⟨hx, hb, hml, hown, hts⟩ (fun sz => k_X7_isKata l hfl Z hZ X M O p0 v1 hf2 sz) (cw_RX7_192 (args := args) (s := s) hts (Nat.le_of_ble_eq_true rfl) (Nat.le_of_ble_eq_true rfl)) hE hP hK hS (rv_26 hK hP (by decide)) rfl hl.1 rfl (Nat.le_of_ble_eq_true rfl) dX7_tests_2 ⟨Nat.le_of_ble_eq_true rfl, Nat.le_of_ble_eq_true rfl⟩ (fun H locs hP hS => ?_)
  refine lv_if_eq (tgt := 21) hx hb dX7_tests_5 (by decide) (fun cz3 => ?_) (fun cz3 => ?_)
  · have hk := it_t cz3 hk
    refine lv_aload_n hx hb dX7_tests_21 rfl (lv_at hl 0 rfl) ?_
    refine lv_iconst (v := (1 : Int32)) hx hb dX7_tests_22 (by decide) ?_
    obtain ⟨M5, v4, hf6, hk⟩ := b1_s hk
    refine wc_iV0 (rest := []) (As := [.int (1 : Int32)]) ⟨hx, hb, hml, hown, hts⟩ (fun sz => k_X7_fails l hfl Z hZ X M O (1 : Int32) M5 v4 hf6 sz) (cw_RX7_165 (args := args) (s := s) hts (Nat.le_of_ble_eq_true rfl) (Nat.le_of_ble_eq_true rfl)) hE hP hK hS (rv_26 hK hP (by decide)) rfl hl.1 rfl (Nat.le_of_ble_eq_true rfl) dX7_tests_23 ⟨Nat.le_of_ble_eq_true rfl, Nat.le_of_ble_eq_true rfl⟩ (fun H locs hP hS => ?_)
    cases (show some _ = some _ from hk)
    exact we_i hx hb hr hlocks hP rfl hS dX7_tests_26 (by decide) (by decide)
  · have hk := it_f cz3 hk
    refine lv_aload_n hx hb dX7_tests_8 rfl (lv_at hl 0 rfl) ?_
    refine lv_aload_n hx hb dX7_tests_9 rfl (lv_at hl 0 rfl) ?_
    refine gf_RX7_60 hx hb hts hown hK hP (by decide) dX7_tests_10 ?_
    refine lv_iload_n hx hb dX7_tests_13 rfl (lv_at hl 1 rfl) ?_
    obtain ⟨hg7, hk⟩ := gd_s hk
    refine wa_iaload_33 hx hb hK hP (by decide) hg7 dX7_tests_14 ?_
    obtain ⟨M9, v8, hf10, hk⟩ := b1_s hk
    refine wc_iV0 (rest := []) (As := [.int (M.1 33 0 (p0).toNatClampNeg)]) ⟨hx, hb, hml, hown, hts⟩ (fun sz => k_X7_tells l hfl Z hZ X M O (M.1 33 0 (p0).toNatClampNeg) M9 v8 hf10 sz) (cw_RX7_169 (args := args) (s := s) hts (Nat.le_of_ble_eq_true rfl) (Nat.le_of_ble_eq_true rfl)) hE hP hK hS (rv_26 hK hP (by decide)) rfl hl.1 rfl (Nat.le_of_ble_eq_true rfl) dX7_tests_15 ⟨Nat.le_of_ble_eq_true rfl, Nat.le_of_ble_eq_true rfl⟩ (fun H locs hP hS => ?_)
    refine lv_goto (tgt := 26) hx hb dX7_tests_18 (by decide) ?_
    cases (show some _ = some _ from hk)
    exact we_i hx hb hr hlocks hP rfl hS dX7_tests_26 (by decide) (by decide)
set_option maxHeartbeats 4000000 in
set_option maxRecDepth 100000 in
theorem k_X7_run (l : Launch) (hfl : l.stackTraces = false) (Z : ZT) (hZ : wD Z) (X M O : SS) (p0 : Int32) (p1 : Int32) (Mz : SS) (r : Int32) (hf : f_X7_run M p0 p1 = some (Mz, r)) (sz : Nat) : vx_Met l yX7_run ws_X7_run rm_X7_run (va_Pc [.ref (Z.2.2 26 0), .int p0, .int p1] (cP Z (X, M, O) sz)) (cQi Z (X, Mz, O) (.inl r) sz) (cX Z (X, Mz, O) (.inl r : Int32 ⊕ String) sz) 0 0 (wA Z sz) := by
  refine vx_ofW (cc := cX7_run) (maxL := 5) (ret := (some .char)) (by decide) rfl ?_
  intro p e s m args below meth c s₁ B hml htab hv
  obtain ⟨hargs, hsz, hE, hP, hK⟩ := hv
  have hx := B.exec
  have hb := B.bytes
  have hr := B.returns
  have hts0 := atoms_spec (ws := ws_X7_run) B.pre
  have hts : ∀ w ∈ lw_all, w.before args s = true := fun w h => hts0 w (List.mem_cons_of_mem _ h)
  have hown : s.vm.findClass RX7 = some m.cls := findClass_of_methodNamed B.named
  have hlocks := B.notSynchronized
  have hout9 : ∀ (pc9 : Nat), ∀ x ∈ c.exceptionTable.toList, covers x pc9 = false := fun _ x hx9 => (htab x hx9).elim
  subst hsz
  have hS : va_S (wA Z s.heap.size) s.heap s.heap [] := va_S.rf
  have hl := lv_entry ([.ref (Z.2.2 26 0), .int p0, .int p1]) (n := 5) (Nat.le_of_ble_eq_true rfl)
  have hen : entryFrame m args 5 = entryFrame m ([.ref (Z.2.2 26 0), .int p0, .int p1] : List Value).toArray 5 := by rw [hargs]
  rw [hen, lg_entry_eq]
  generalize (lg_sl ([.ref (Z.2.2 26 0), .int p0, .int p1]) ++ List.replicate (5 - (lg_sl ([.ref (Z.2.2 26 0), .int p0, .int p1])).length) Slot.unset).toArray = ls at hl ⊢
  have hl : lv_has ls 5 [(0, .ref (Z.2.2 26 0)), (1, .int p0), (2, .int p1)] := hl
  have hk := hf
  unfold f_X7_run at hk
  refine lv_aload_n hx hb dX7_run_0 rfl (lv_at hl 0 rfl) ?_
  refine lv_aload_n hx hb dX7_run_1 rfl (lv_at hl 0 rfl) ?_
  refine lv_iload_n hx hb dX7_run_2 rfl (lv_at hl 1 rfl) ?_
  refine lv_iload_n hx hb dX7_run_3 rfl (lv_at hl 2 rfl) ?_
  obtain ⟨v1, hf2, hk⟩ := b0_s hk
  refine wc_iV0 (rest := [.ref (Z.2.2 26 0)]) (As := [.int p0, .int p1]) ⟨hx, hb, hml, hown, hts⟩ (fun sz => k_X7_isTest l hfl Z hZ X M O p0 p1 v1 hf2 sz) (cw_RX7_208 (args := args) (s := s) hts (Nat.le_of_ble_eq_true rfl) (Nat.le_of_ble_eq_true rfl)) hE hP hK hS (rv_26 hK hP (by decide)) rfl hl.1 rfl (Nat.le_of_ble_eq_true rfl) dX7_run_4 ⟨Nat.le_of_ble_eq_true rfl, Nat.le_of_ble_eq_true rfl⟩ (fun H locs hP hS => ?_)
  have jn4 : ∀ (v3 : Int32) (H : Heap) (locs : List Loc) (ls : Array Slot), f_X7_run_J28 M p0 p1 v3 = some (Mz, r) → wP Z (X, M, O) H → va_S (wA Z s.heap.size) s.heap H locs → lv_has ls 5 [(0, .ref (Z.2.2 26 0)), (1, .int p0), (2, .int p1)] → W p l e (headSpec ws_X7_run rm_X7_run).room s m args below meth c H locs 0 0 (vx_MQ below (cQi Z (X, Mz, O) (.inl r) s.heap.size) (cX Z (X, Mz, O) (.inl r : Int32 ⊕ String) s.heap.size) args s 0 0 (wA Z s.heap.size)) (F0 m 28 ls [.int v3, .ref (Z.2.2 26 0)]) := by
    intro v3 H locs ls hk hP hS hl
    unfold f_X7_run_J28 at hk
    obtain ⟨M5, eM5, hk⟩ := lq_s hk
    refine pf_RX7_37 hx hb hts hown hZ hK hP hS (by decide) dX7_run_28 (fun H locs hP hS => ?_)
    rw [← eM5] at hP
    refine lv_aload_n hx hb dX7_run_31 rfl (lv_at hl 0 rfl) ?_
    refine gf_RX7_37 hx hb hts hown hK hP (by decide) dX7_run_32 ?_
    refine lv_if_le (tgt := 40) hx hb dX7_run_35 (by decide) (fun cz6 => ?_) (fun cz6 => ?_)
    · have hk := it_t cz6 hk
      refine lv_aload_n hx hb dX7_run_40 rfl (lv_at hl 0 rfl) ?_
      refine lv_bipush (v := (40 : Int32)) hx hb dX7_run_41 (by decide) ?_
      refine lv_iconst (v := (5 : Int32)) hx hb dX7_run_43 (by decide) ?_
      refine lv_iload_n hx hb dX7_run_44 rfl (lv_at hl 1 rfl) ?_
      refine lv_imul hx hb dX7_run_45 ?_
      refine lv_iload_n hx hb dX7_run_46 rfl (lv_at hl 2 rfl) ?_
      refine lv_iadd hx hb dX7_run_47 ?_
      obtain ⟨M8, v7, hf9, hk⟩ := b1_s hk
      refine wc_iV0 (rest := []) (As := [.int (40 : Int32), .int (((5 : Int32) * p0) + p1)]) ⟨hx, hb, hml, hown, hts⟩ (fun sz => k_X7_runs l hfl Z hZ X M5 O (40 : Int32) (((5 : Int32) * p0) + p1) M8 v7 hf9 sz) (cw_RX7_200 (args := args) (s := s) hts (Nat.le_of_ble_eq_true rfl) (Nat.le_of_ble_eq_true rfl)) hE hP hK hS (rv_26 hK hP (by decide)) rfl hl.1 rfl (Nat.le_of_ble_eq_true rfl) dX7_run_48 ⟨Nat.le_of_ble_eq_true rfl, Nat.le_of_ble_eq_true rfl⟩ (fun H locs hP hS => ?_)
      refine lv_istore_n (lv' := [(3, .int v7), (0, .ref (Z.2.2 26 0)), (1, .int p0), (2, .int p1)]) hx hb dX7_run_51 rfl hl (by decide) rfl (fun ls hl => ?_)
      refine lv_aload_n hx hb dX7_run_52 rfl (lv_at hl 1 rfl) ?_
      refine lv_iconst (v := (1 : Int32)) hx hb dX7_run_53 (by decide) ?_
      obtain ⟨M10, eM10, hk⟩ := lq_s hk
      refine pf_RX7_137 hx hb hts hown hZ hK hP hS (by decide) (by unfold okz; decide) dX7_run_54 (fun H locs hP hS => ?_)
      rw [← eM10] at hP
      refine lv_aload_n hx hb dX7_run_57 rfl (lv_at hl 1 rfl) ?_
      refine lv_aload_n hx hb dX7_run_58 rfl (lv_at hl 1 rfl) ?_
      refine gf_RX7_128 hx hb hts hown hK hP (by decide) dX7_run_59 ?_
      obtain ⟨M11, eM11, hk⟩ := lq_s hk
      refine pf_RX7_141 hx hb hts hown hZ hK hP hS (by decide) dX7_run_62 (fun H locs hP hS => ?_)
      rw [← eM11] at hP
      refine lv_aload_n hx hb dX7_run_65 rfl (lv_at hl 1 rfl) ?_
      refine lv_aload_n hx hb dX7_run_66 rfl (lv_at hl 1 rfl) ?_
      refine gf_RX7_131 hx hb hts hown hK hP (by decide) dX7_run_67 ?_
      obtain ⟨M12, eM12, hk⟩ := lq_s hk
      refine pf_RX7_144 hx hb hts hown hZ hK hP hS (by decide) dX7_run_70 (fun H locs hP hS => ?_)
      rw [← eM12] at hP
      refine lv_aload_n hx hb dX7_run_73 rfl (lv_at hl 1 rfl) ?_
      refine lv_aload_n hx hb dX7_run_74 rfl (lv_at hl 1 rfl) ?_
      refine gf_RX7_134 hx hb hts hown hK hP (by decide) dX7_run_75 ?_
      obtain ⟨M13, eM13, hk⟩ := lq_s hk
      refine pf_RX7_147 hx hb hts hown hZ hK hP hS (by decide) dX7_run_78 (fun H locs hP hS => ?_)
      rw [← eM13] at hP
      refine lv_iconst (v := (0 : Int32)) hx hb dX7_run_81 (by decide) ?_
      refine lv_istore (lv' := [(4, .int (0 : Int32)), (3, .int v7), (0, .ref (Z.2.2 26 0)), (1, .int p0), (2, .int p1)]) hx hb dX7_run_82 hl (by decide) rfl (fun ls hl => ?_)
      obtain ⟨k14, hk14, hk⟩ := gn hk
      have ex14 : ∀ (M15 : SS) (H : Heap) (locs : List Loc) (ls : Array Slot), k14 M15 = some (Mz, r) → wP Z (X, M15, O) H → va_S (wA Z s.heap.size) s.heap H locs → lv_has ls 5 [(3, .int v7)] → W p l e (headSpec ws_X7_run rm_X7_run).room s m args below meth c H locs 0 0 (vx_MQ below (cQi Z (X, Mz, O) (.inl r) s.heap.size) (cX Z (X, Mz, O) (.inl r : Int32 ⊕ String) s.heap.size) args s 0 0 (wA Z s.heap.size)) (F0 m 113 ls []) := by
        intro M15 H locs ls hk hP hS hl
        subst hk14
        refine lv_iload_n hx hb dX7_run_113 rfl (lv_at hl 0 rfl) ?_
        obtain ⟨hg18, hk⟩ := gd_s hk
        cases (show some _ = some _ from hk)
        exact we_z hx hb hr hlocks hg18.1 hP rfl hS dX7_run_114 (by decide) (by decide)
      have lp14 : ∀ (n : Nat) (v16 : Int32) (M17 : SS) (H : Heap) (locs : List Loc) (ls : Array Slot), f_X7_run_L84  n v16 M17 k14 = some (Mz, r) → wP Z (X, M17, O) H → va_S (wA Z s.heap.size) s.heap H locs → lv_has ls 5 [(4, .int v16), (3, .int v7), (0, .ref (Z.2.2 26 0))] → W p l e (headSpec ws_X7_run rm_X7_run).room s m args below meth c H locs 0 0 (vx_MQ below (cQi Z (X, Mz, O) (.inl r) s.heap.size) (cX Z (X, Mz, O) (.inl r : Int32 ⊕ String) s.heap.size) args s 0 0 (wA Z s.heap.size)) (F0 m 84 ls []) := by
        intro n
        induction n with
        | zero =>
          intro v16 M17 H locs ls hk
          rw [f_X7_run_L84] at hk
          exact nomatch (show none = some _ from hk)
        | succ n ih =>
          intro v16 M17 H locs ls hk hP hS hl
          rw [f_X7_run_L84] at hk
          refine lv_iload hx hb dX7_run_84 (lv_at hl 0 rfl) ?_
          refine lv_aload_n hx hb dX7_run_86 rfl (lv_at hl 2 rfl) ?_
          refine gf_RX7_131 hx hb hts hown hK hP (by decide) dX7_run_87 ?_
          refine lv_icmp_ge (tgt := 113) hx hb dX7_run_90 (by decide) (fun cz19 => ?_) (fun cz19 => ?_)
          · have hk := it_t cz19 hk
            exact ex14 M17 _ _ _ hk hP hS (lv_sub hl [1] rfl)
          · have hk := it_f cz19 hk
            refine lv_aload_n hx hb dX7_run_93 rfl (lv_at hl 2 rfl) ?_
            refine gf_RX7_150 hx hb hts hown hK hP (by decide) dX7_run_94 ?_
            refine lv_iload hx hb dX7_run_97 (lv_at hl 0 rfl) ?_
            refine lv_aload_n hx hb dX7_run_99 rfl (lv_at hl 2 rfl) ?_
            refine gf_RX7_125 hx hb hts hown hK hP (by decide) dX7_run_100 ?_
            refine lv_iload hx hb dX7_run_103 (lv_at hl 0 rfl) ?_
            obtain ⟨hg20, hk⟩ := gd_s hk
            refine wa_iaload_54 hx hb hK hP (by decide) hg20 dX7_run_105 ?_
            obtain ⟨hg21, hk⟩ := gd_s hk
            obtain ⟨M22, eM22, hk⟩ := lq_s hk
            refine wa_iastore_55 hx hb hZ hK hP hS (by decide) hg21 dX7_run_106 (fun H locs hP hS => ?_)
            rw [← eM22] at hP
            refine lv_iinc (v := (v16 + (1 : Int32))) (lv' := [(4, .int (v16 + (1 : Int32))), (3, .int v7), (0, .ref (Z.2.2 26 0))]) hx hb dX7_run_107 hl (k := 0) rfl rfl (by decide) rfl (fun ls hl => ?_)
            refine lv_goto (tgt := 84) hx hb dX7_run_110 (by decide) ?_
            exact ih (v16 + (1 : Int32)) M22 _ _ _ hk hP hS (lv_sub hl [0, 1, 2] rfl)
      exact lp14 1000 (0 : Int32) M13 _ _ _ hk hP hS (lv_sub hl [0, 1, 2] rfl)
    · have hk := it_f cz6 hk
      refine lv_iconst (v := (0 : Int32)) hx hb dX7_run_38 (by decide) ?_
      cases (show some _ = some _ from hk)
      exact we_z hx hb hr hlocks (show okc (0 : Int32) by unfold okc; decide).1 hP rfl hS dX7_run_39 (by decide) (by decide)
  refine lv_if_ne (tgt := 14) hx hb dX7_run_7 (by decide) (fun cz23 => ?_) (fun cz23 => ?_)
  · have hk := it_f cz23 hk
    refine lv_aload_n hx hb dX7_run_14 rfl (lv_at hl 0 rfl) ?_
    refine lv_bipush (v := (40 : Int32)) hx hb dX7_run_15 (by decide) ?_
    obtain ⟨v24, hf25, hk⟩ := b0_s hk
    refine wc_iV0 (rest := [.ref (Z.2.2 26 0)]) (As := [.int (40 : Int32)]) ⟨hx, hb, hml, hown, hts⟩ (fun sz => k_X7_isWhole l hfl Z hZ X M O (40 : Int32) v24 hf25 sz) (cw_RX7_211 (args := args) (s := s) hts (Nat.le_of_ble_eq_true rfl) (Nat.le_of_ble_eq_true rfl)) hE hP hK hS (rv_26 hK hP (by decide)) rfl hl.1 rfl (Nat.le_of_ble_eq_true rfl) dX7_run_17 ⟨Nat.le_of_ble_eq_true rfl, Nat.le_of_ble_eq_true rfl⟩ (fun H locs hP hS => ?_)
    refine lv_if_ne (tgt := 27) hx hb dX7_run_20 (by decide) (fun cz26 => ?_) (fun cz26 => ?_)
    · have hk := it_f cz26 hk
      refine lv_iconst (v := (0 : Int32)) hx hb dX7_run_27 (by decide) ?_
      exact jn4 (0 : Int32) _ _ _ hk hP hS (lv_sub hl [0, 1, 2] rfl)
    · have hk := it_t cz26 hk
      refine lv_iconst (v := (2 : Int32)) hx hb dX7_run_23 (by decide) ?_
      refine lv_goto (tgt := 28) hx hb dX7_run_24 (by decide) ?_
      exact jn4 (2 : Int32) _ _ _ hk hP hS (lv_sub hl [0, 1, 2] rfl)
  · have hk := it_t cz23 hk
    refine lv_iconst (v := (1 : Int32)) hx hb dX7_run_10 (by decide) ?_
    refine lv_goto (tgt := 28) hx hb dX7_run_11 (by decide) ?_
    exact jn4 (1 : Int32) _ _ _ hk hP hS (lv_sub hl [0, 1, 2] rfl)
set_option maxHeartbeats 4000000 in
set_option maxRecDepth 100000 in
theorem k_X7_done (l : Launch) (hfl : l.stackTraces = false) (Z : ZT) (hZ : wD Z) (X M O : SS) (Mz : SS) (r : Int32) (hf : f_X7_done M = some (Mz, r)) (sz : Nat) : vx_Met l yX7_done ws_X7_done rm_X7_done (va_Pc [.ref (Z.2.2 26 0)] (cP Z (X, M, O) sz)) (cQi Z (X, Mz, O) (.inl r) sz) (cX Z (X, Mz, O) (.inl r : Int32 ⊕ String) sz) 0 0 (wA Z sz) := by
  refine vx_ofW (cc := cX7_done) (maxL := 1) (ret := (some .int)) (by decide) rfl ?_
  intro p e s m args below meth c s₁ B hml htab hv
  obtain ⟨hargs, hsz, hE, hP, hK⟩ := hv
  have hx := B.exec
  have hb := B.bytes
  have hr := B.returns
  have hts0 := atoms_spec (ws := ws_X7_done) B.pre
  have hts : ∀ w ∈ lw_all, w.before args s = true := fun w h => hts0 w (List.mem_cons_of_mem _ h)
  have hown : s.vm.findClass RX7 = some m.cls := findClass_of_methodNamed B.named
  have hlocks := B.notSynchronized
  have hout9 : ∀ (pc9 : Nat), ∀ x ∈ c.exceptionTable.toList, covers x pc9 = false := fun _ x hx9 => (htab x hx9).elim
  subst hsz
  have hS : va_S (wA Z s.heap.size) s.heap s.heap [] := va_S.rf
  have hl := lv_entry ([.ref (Z.2.2 26 0)]) (n := 1) (Nat.le_of_ble_eq_true rfl)
  have hen : entryFrame m args 1 = entryFrame m ([.ref (Z.2.2 26 0)] : List Value).toArray 1 := by rw [hargs]
  rw [hen, lg_entry_eq]
  generalize (lg_sl ([.ref (Z.2.2 26 0)]) ++ List.replicate (1 - (lg_sl ([.ref (Z.2.2 26 0)])).length) Slot.unset).toArray = ls at hl ⊢
  have hl : lv_has ls 1 [(0, .ref (Z.2.2 26 0))] := hl
  have hk := hf
  unfold f_X7_done at hk
  refine lv_aload_n hx hb dX7_done_0 rfl (lv_at hl 0 rfl) ?_
  refine gf_RX7_137 hx hb hts hown hK hP (by decide) dX7_done_1 ?_
  refine lv_if_eq (tgt := 18) hx hb dX7_done_4 (by decide) (fun cz1 => ?_) (fun cz1 => ?_)
  · have hk := it_t cz1 hk
    refine lv_aload_n hx hb dX7_done_18 rfl (lv_at hl 0 rfl) ?_
    refine lv_iconst (v := (1 : Int32)) hx hb dX7_done_19 (by decide) ?_
    obtain ⟨M3, v2, hf4, hk⟩ := b1_s hk
    refine wc_iV0 (rest := []) (As := [.int (1 : Int32)]) ⟨hx, hb, hml, hown, hts⟩ (fun sz => k_X7_fails l hfl Z hZ X M O (1 : Int32) M3 v2 hf4 sz) (cw_RX7_165 (args := args) (s := s) hts (Nat.le_of_ble_eq_true rfl) (Nat.le_of_ble_eq_true rfl)) hE hP hK hS (rv_26 hK hP (by decide)) rfl hl.1 rfl (Nat.le_of_ble_eq_true rfl) dX7_done_20 ⟨Nat.le_of_ble_eq_true rfl, Nat.le_of_ble_eq_true rfl⟩ (fun H locs hP hS => ?_)
    cases (show some _ = some _ from hk)
    exact we_i hx hb hr hlocks hP rfl hS dX7_done_23 (by decide) (by decide)
  · have hk := it_f cz1 hk
    refine lv_aload_n hx hb dX7_done_7 rfl (lv_at hl 0 rfl) ?_
    refine lv_aload_n hx hb dX7_done_8 rfl (lv_at hl 0 rfl) ?_
    refine gf_RX7_147 hx hb hts hown hK hP (by decide) dX7_done_9 ?_
    obtain ⟨M6, v5, hf7, hk⟩ := b1_s hk
    refine wc_iV0 (rest := []) (As := [.int (M.1 26 0 44)]) ⟨hx, hb, hml, hown, hts⟩ (fun sz => k_X7_tells l hfl Z hZ X M O (M.1 26 0 44) M6 v5 hf7 sz) (cw_RX7_169 (args := args) (s := s) hts (Nat.le_of_ble_eq_true rfl) (Nat.le_of_ble_eq_true rfl)) hE hP hK hS (rv_26 hK hP (by decide)) rfl hl.1 rfl (Nat.le_of_ble_eq_true rfl) dX7_done_12 ⟨Nat.le_of_ble_eq_true rfl, Nat.le_of_ble_eq_true rfl⟩ (fun H locs hP hS => ?_)
    refine lv_goto (tgt := 23) hx hb dX7_done_15 (by decide) ?_
    cases (show some _ = some _ from hk)
    exact we_i hx hb hr hlocks hP rfl hS dX7_done_23 (by decide) (by decide)
set_option maxHeartbeats 4000000 in
set_option maxRecDepth 100000 in
theorem k_X7_outputs (l : Launch) (hfl : l.stackTraces = false) (Z : ZT) (hZ : wD Z) (X M O : SS) (Mz : SS) (r : Int32) (hf : f_X7_outputs M = some (Mz, r)) (sz : Nat) : vx_Met l yX7_outputs ws_X7_outputs rm_X7_outputs (va_Pc [.ref (Z.2.2 26 0)] (cP Z (X, M, O) sz)) (cQi Z (X, Mz, O) (.inl r) sz) (cX Z (X, Mz, O) (.inl r : Int32 ⊕ String) sz) 0 0 (wA Z sz) := by
  refine vx_ofW (cc := cX7_outputs) (maxL := 1) (ret := (some .int)) (by decide) rfl ?_
  intro p e s m args below meth c s₁ B hml htab hv
  obtain ⟨hargs, hsz, hE, hP, hK⟩ := hv
  have hx := B.exec
  have hb := B.bytes
  have hr := B.returns
  have hts0 := atoms_spec (ws := ws_X7_outputs) B.pre
  have hts : ∀ w ∈ lw_all, w.before args s = true := fun w h => hts0 w (List.mem_cons_of_mem _ h)
  have hown : s.vm.findClass RX7 = some m.cls := findClass_of_methodNamed B.named
  have hlocks := B.notSynchronized
  have hout9 : ∀ (pc9 : Nat), ∀ x ∈ c.exceptionTable.toList, covers x pc9 = false := fun _ x hx9 => (htab x hx9).elim
  subst hsz
  have hS : va_S (wA Z s.heap.size) s.heap s.heap [] := va_S.rf
  have hl := lv_entry ([.ref (Z.2.2 26 0)]) (n := 1) (Nat.le_of_ble_eq_true rfl)
  have hen : entryFrame m args 1 = entryFrame m ([.ref (Z.2.2 26 0)] : List Value).toArray 1 := by rw [hargs]
  rw [hen, lg_entry_eq]
  generalize (lg_sl ([.ref (Z.2.2 26 0)]) ++ List.replicate (1 - (lg_sl ([.ref (Z.2.2 26 0)])).length) Slot.unset).toArray = ls at hl ⊢
  have hl : lv_has ls 1 [(0, .ref (Z.2.2 26 0))] := hl
  have hk := hf
  unfold f_X7_outputs at hk
  refine lv_aload_n hx hb dX7_outputs_0 rfl (lv_at hl 0 rfl) ?_
  refine gf_RX7_137 hx hb hts hown hK hP (by decide) dX7_outputs_1 ?_
  refine lv_if_eq (tgt := 18) hx hb dX7_outputs_4 (by decide) (fun cz1 => ?_) (fun cz1 => ?_)
  · have hk := it_t cz1 hk
    refine lv_aload_n hx hb dX7_outputs_18 rfl (lv_at hl 0 rfl) ?_
    refine lv_iconst (v := (1 : Int32)) hx hb dX7_outputs_19 (by decide) ?_
    obtain ⟨M3, v2, hf4, hk⟩ := b1_s hk
    refine wc_iV0 (rest := []) (As := [.int (1 : Int32)]) ⟨hx, hb, hml, hown, hts⟩ (fun sz => k_X7_fails l hfl Z hZ X M O (1 : Int32) M3 v2 hf4 sz) (cw_RX7_165 (args := args) (s := s) hts (Nat.le_of_ble_eq_true rfl) (Nat.le_of_ble_eq_true rfl)) hE hP hK hS (rv_26 hK hP (by decide)) rfl hl.1 rfl (Nat.le_of_ble_eq_true rfl) dX7_outputs_20 ⟨Nat.le_of_ble_eq_true rfl, Nat.le_of_ble_eq_true rfl⟩ (fun H locs hP hS => ?_)
    cases (show some _ = some _ from hk)
    exact we_i hx hb hr hlocks hP rfl hS dX7_outputs_23 (by decide) (by decide)
  · have hk := it_f cz1 hk
    refine lv_aload_n hx hb dX7_outputs_7 rfl (lv_at hl 0 rfl) ?_
    refine lv_aload_n hx hb dX7_outputs_8 rfl (lv_at hl 0 rfl) ?_
    refine gf_RX7_144 hx hb hts hown hK hP (by decide) dX7_outputs_9 ?_
    obtain ⟨M6, v5, hf7, hk⟩ := b1_s hk
    refine wc_iV0 (rest := []) (As := [.int (M.1 26 0 43)]) ⟨hx, hb, hml, hown, hts⟩ (fun sz => k_X7_tells l hfl Z hZ X M O (M.1 26 0 43) M6 v5 hf7 sz) (cw_RX7_169 (args := args) (s := s) hts (Nat.le_of_ble_eq_true rfl) (Nat.le_of_ble_eq_true rfl)) hE hP hK hS (rv_26 hK hP (by decide)) rfl hl.1 rfl (Nat.le_of_ble_eq_true rfl) dX7_outputs_12 ⟨Nat.le_of_ble_eq_true rfl, Nat.le_of_ble_eq_true rfl⟩ (fun H locs hP hS => ?_)
    refine lv_goto (tgt := 23) hx hb dX7_outputs_15 (by decide) ?_
    cases (show some _ = some _ from hk)
    exact we_i hx hb hr hlocks hP rfl hS dX7_outputs_23 (by decide) (by decide)
set_option maxHeartbeats 4000000 in
set_option maxRecDepth 100000 in
theorem k_X7_output (l : Launch) (hfl : l.stackTraces = false) (Z : ZT) (hZ : wD Z) (X M O : SS) (p0 : Int32) (Mz : SS) (r : Int32) (hf : f_X7_output M p0 = some (Mz, r)) (sz : Nat) : vx_Met l yX7_output ws_X7_output rm_X7_output (va_Pc [.ref (Z.2.2 26 0), .int p0] (cP Z (X, M, O) sz)) (cQi Z (X, Mz, O) (.inl r) sz) (cX Z (X, Mz, O) (.inl r : Int32 ⊕ String) sz) 0 0 (wA Z sz) := by
  refine vx_ofW (cc := cX7_output) (maxL := 2) (ret := (some .int)) (by decide) rfl ?_
  intro p e s m args below meth c s₁ B hml htab hv
  obtain ⟨hargs, hsz, hE, hP, hK⟩ := hv
  have hx := B.exec
  have hb := B.bytes
  have hr := B.returns
  have hts0 := atoms_spec (ws := ws_X7_output) B.pre
  have hts : ∀ w ∈ lw_all, w.before args s = true := fun w h => hts0 w (List.mem_cons_of_mem _ h)
  have hown : s.vm.findClass RX7 = some m.cls := findClass_of_methodNamed B.named
  have hlocks := B.notSynchronized
  have hout9 : ∀ (pc9 : Nat), ∀ x ∈ c.exceptionTable.toList, covers x pc9 = false := fun _ x hx9 => (htab x hx9).elim
  subst hsz
  have hS : va_S (wA Z s.heap.size) s.heap s.heap [] := va_S.rf
  have hl := lv_entry ([.ref (Z.2.2 26 0), .int p0]) (n := 2) (Nat.le_of_ble_eq_true rfl)
  have hen : entryFrame m args 2 = entryFrame m ([.ref (Z.2.2 26 0), .int p0] : List Value).toArray 2 := by rw [hargs]
  rw [hen, lg_entry_eq]
  generalize (lg_sl ([.ref (Z.2.2 26 0), .int p0]) ++ List.replicate (2 - (lg_sl ([.ref (Z.2.2 26 0), .int p0])).length) Slot.unset).toArray = ls at hl ⊢
  have hl : lv_has ls 2 [(0, .ref (Z.2.2 26 0)), (1, .int p0)] := hl
  have hk := hf
  unfold f_X7_output at hk
  refine lv_aload_n hx hb dX7_output_0 rfl (lv_at hl 0 rfl) ?_
  refine gf_RX7_137 hx hb hts hown hK hP (by decide) dX7_output_1 ?_
  refine lv_if_eq (tgt := 34) hx hb dX7_output_4 (by decide) (fun cz1 => ?_) (fun cz1 => ?_)
  · have hk := it_t cz1 hk
    refine lv_aload_n hx hb dX7_output_34 rfl (lv_at hl 0 rfl) ?_
    refine lv_iconst (v := (1 : Int32)) hx hb dX7_output_35 (by decide) ?_
    obtain ⟨M3, v2, hf4, hk⟩ := b1_s hk
    refine wc_iV0 (rest := []) (As := [.int (1 : Int32)]) ⟨hx, hb, hml, hown, hts⟩ (fun sz => k_X7_fails l hfl Z hZ X M O (1 : Int32) M3 v2 hf4 sz) (cw_RX7_165 (args := args) (s := s) hts (Nat.le_of_ble_eq_true rfl) (Nat.le_of_ble_eq_true rfl)) hE hP hK hS (rv_26 hK hP (by decide)) rfl hl.1 rfl (Nat.le_of_ble_eq_true rfl) dX7_output_36 ⟨Nat.le_of_ble_eq_true rfl, Nat.le_of_ble_eq_true rfl⟩ (fun H locs hP hS => ?_)
    cases (show some _ = some _ from hk)
    exact we_i hx hb hr hlocks hP rfl hS dX7_output_39 (by decide) (by decide)
  · have hk := it_f cz1 hk
    refine lv_iload_n hx hb dX7_output_7 rfl (lv_at hl 1 rfl) ?_
    refine lv_iconst (v := (0 : Int32)) hx hb dX7_output_8 (by decide) ?_
    refine lv_aload_n hx hb dX7_output_9 rfl (lv_at hl 0 rfl) ?_
    refine gf_RX7_144 hx hb hts hown hK hP (by decide) dX7_output_10 ?_
    refine lv_iconst (v := (1 : Int32)) hx hb dX7_output_13 (by decide) ?_
    refine lv_isub hx hb dX7_output_14 ?_
    obtain ⟨v5, hf6, hk⟩ := b0_s hk
    refine wc_iS0 (rest := []) (As := [.int p0, .int (0 : Int32), .int ((M.1 26 0 43) - (1 : Int32))]) ⟨hx, hb, hml, hown, hts⟩ (fun sz => k_X7_in l hfl Z hZ X M O p0 (0 : Int32) ((M.1 26 0 43) - (1 : Int32)) v5 hf6 sz) (cw_RX7_161 (args := args) (s := s) hts (Nat.le_of_ble_eq_true rfl) (Nat.le_of_ble_eq_true rfl)) hE hP hK hS  rfl hl.1 rfl (Nat.le_of_ble_eq_true rfl) dX7_output_15 ⟨Nat.le_of_ble_eq_true rfl, Nat.le_of_ble_eq_true rfl⟩ (fun H locs hP hS => ?_)
    refine lv_if_eq (tgt := 34) hx hb dX7_output_18 (by decide) (fun cz7 => ?_) (fun cz7 => ?_)
    · have hk := it_t cz7 hk
      refine lv_aload_n hx hb dX7_output_34 rfl (lv_at hl 0 rfl) ?_
      refine lv_iconst (v := (1 : Int32)) hx hb dX7_output_35 (by decide) ?_
      obtain ⟨M9, v8, hf10, hk⟩ := b1_s hk
      refine wc_iV0 (rest := []) (As := [.int (1 : Int32)]) ⟨hx, hb, hml, hown, hts⟩ (fun sz => k_X7_fails l hfl Z hZ X M O (1 : Int32) M9 v8 hf10 sz) (cw_RX7_165 (args := args) (s := s) hts (Nat.le_of_ble_eq_true rfl) (Nat.le_of_ble_eq_true rfl)) hE hP hK hS (rv_26 hK hP (by decide)) rfl hl.1 rfl (Nat.le_of_ble_eq_true rfl) dX7_output_36 ⟨Nat.le_of_ble_eq_true rfl, Nat.le_of_ble_eq_true rfl⟩ (fun H locs hP hS => ?_)
      cases (show some _ = some _ from hk)
      exact we_i hx hb hr hlocks hP rfl hS dX7_output_39 (by decide) (by decide)
    · have hk := it_f cz7 hk
      refine lv_aload_n hx hb dX7_output_21 rfl (lv_at hl 0 rfl) ?_
      refine lv_aload_n hx hb dX7_output_22 rfl (lv_at hl 0 rfl) ?_
      refine gf_RX7_150 hx hb hts hown hK hP (by decide) dX7_output_23 ?_
      refine lv_iload_n hx hb dX7_output_26 rfl (lv_at hl 1 rfl) ?_
      obtain ⟨hg11, hk⟩ := gd_s hk
      refine wa_iaload_55 hx hb hK hP (by decide) hg11 dX7_output_27 ?_
      obtain ⟨M13, v12, hf14, hk⟩ := b1_s hk
      refine wc_iV0 (rest := []) (As := [.int (M.1 55 0 (p0).toNatClampNeg)]) ⟨hx, hb, hml, hown, hts⟩ (fun sz => k_X7_tells l hfl Z hZ X M O (M.1 55 0 (p0).toNatClampNeg) M13 v12 hf14 sz) (cw_RX7_169 (args := args) (s := s) hts (Nat.le_of_ble_eq_true rfl) (Nat.le_of_ble_eq_true rfl)) hE hP hK hS (rv_26 hK hP (by decide)) rfl hl.1 rfl (Nat.le_of_ble_eq_true rfl) dX7_output_28 ⟨Nat.le_of_ble_eq_true rfl, Nat.le_of_ble_eq_true rfl⟩ (fun H locs hP hS => ?_)
      refine lv_goto (tgt := 39) hx hb dX7_output_31 (by decide) ?_
      cases (show some _ = some _ from hk)
      exact we_i hx hb hr hlocks hP rfl hS dX7_output_39 (by decide) (by decide)
set_option maxHeartbeats 4000000 in
set_option maxRecDepth 100000 in
theorem k_X7_depth (l : Launch) (hfl : l.stackTraces = false) (Z : ZT) (hZ : wD Z) (X M O : SS) (Mz : SS) (r : Int32) (hf : f_X7_depth M = some (Mz, r)) (sz : Nat) : vx_Met l yX7_depth ws_X7_depth rm_X7_depth (va_Pc [.ref (Z.2.2 26 0)] (cP Z (X, M, O) sz)) (cQi Z (X, Mz, O) (.inl r) sz) (cX Z (X, Mz, O) (.inl r : Int32 ⊕ String) sz) 0 0 (wA Z sz) := by
  refine vx_ofW (cc := cX7_depth) (maxL := 1) (ret := (some .int)) (by decide) rfl ?_
  intro p e s m args below meth c s₁ B hml htab hv
  obtain ⟨hargs, hsz, hE, hP, hK⟩ := hv
  have hx := B.exec
  have hb := B.bytes
  have hr := B.returns
  have hts0 := atoms_spec (ws := ws_X7_depth) B.pre
  have hts : ∀ w ∈ lw_all, w.before args s = true := fun w h => hts0 w (List.mem_cons_of_mem _ h)
  have hown : s.vm.findClass RX7 = some m.cls := findClass_of_methodNamed B.named
  have hlocks := B.notSynchronized
  have hout9 : ∀ (pc9 : Nat), ∀ x ∈ c.exceptionTable.toList, covers x pc9 = false := fun _ x hx9 => (htab x hx9).elim
  subst hsz
  have hS : va_S (wA Z s.heap.size) s.heap s.heap [] := va_S.rf
  have hl := lv_entry ([.ref (Z.2.2 26 0)]) (n := 1) (Nat.le_of_ble_eq_true rfl)
  have hen : entryFrame m args 1 = entryFrame m ([.ref (Z.2.2 26 0)] : List Value).toArray 1 := by rw [hargs]
  rw [hen, lg_entry_eq]
  generalize (lg_sl ([.ref (Z.2.2 26 0)]) ++ List.replicate (1 - (lg_sl ([.ref (Z.2.2 26 0)])).length) Slot.unset).toArray = ls at hl ⊢
  have hl : lv_has ls 1 [(0, .ref (Z.2.2 26 0))] := hl
  have hk := hf
  unfold f_X7_depth at hk
  refine lv_aload_n hx hb dX7_depth_0 rfl (lv_at hl 0 rfl) ?_
  refine gf_RX7_137 hx hb hts hown hK hP (by decide) dX7_depth_1 ?_
  refine lv_if_eq (tgt := 18) hx hb dX7_depth_4 (by decide) (fun cz1 => ?_) (fun cz1 => ?_)
  · have hk := it_t cz1 hk
    refine lv_aload_n hx hb dX7_depth_18 rfl (lv_at hl 0 rfl) ?_
    refine lv_iconst (v := (1 : Int32)) hx hb dX7_depth_19 (by decide) ?_
    obtain ⟨M3, v2, hf4, hk⟩ := b1_s hk
    refine wc_iV0 (rest := []) (As := [.int (1 : Int32)]) ⟨hx, hb, hml, hown, hts⟩ (fun sz => k_X7_fails l hfl Z hZ X M O (1 : Int32) M3 v2 hf4 sz) (cw_RX7_165 (args := args) (s := s) hts (Nat.le_of_ble_eq_true rfl) (Nat.le_of_ble_eq_true rfl)) hE hP hK hS (rv_26 hK hP (by decide)) rfl hl.1 rfl (Nat.le_of_ble_eq_true rfl) dX7_depth_20 ⟨Nat.le_of_ble_eq_true rfl, Nat.le_of_ble_eq_true rfl⟩ (fun H locs hP hS => ?_)
    cases (show some _ = some _ from hk)
    exact we_i hx hb hr hlocks hP rfl hS dX7_depth_23 (by decide) (by decide)
  · have hk := it_f cz1 hk
    refine lv_aload_n hx hb dX7_depth_7 rfl (lv_at hl 0 rfl) ?_
    refine lv_aload_n hx hb dX7_depth_8 rfl (lv_at hl 0 rfl) ?_
    refine gf_RX7_141 hx hb hts hown hK hP (by decide) dX7_depth_9 ?_
    obtain ⟨M6, v5, hf7, hk⟩ := b1_s hk
    refine wc_iV0 (rest := []) (As := [.int (M.1 26 0 42)]) ⟨hx, hb, hml, hown, hts⟩ (fun sz => k_X7_tells l hfl Z hZ X M O (M.1 26 0 42) M6 v5 hf7 sz) (cw_RX7_169 (args := args) (s := s) hts (Nat.le_of_ble_eq_true rfl) (Nat.le_of_ble_eq_true rfl)) hE hP hK hS (rv_26 hK hP (by decide)) rfl hl.1 rfl (Nat.le_of_ble_eq_true rfl) dX7_depth_12 ⟨Nat.le_of_ble_eq_true rfl, Nat.le_of_ble_eq_true rfl⟩ (fun H locs hP hS => ?_)
    refine lv_goto (tgt := 23) hx hb dX7_depth_15 (by decide) ?_
    cases (show some _ = some _ from hk)
    exact we_i hx hb hr hlocks hP rfl hS dX7_depth_23 (by decide) (by decide)
set_option maxHeartbeats 4000000 in
set_option maxRecDepth 100000 in
theorem k_X7_isMember (l : Launch) (hfl : l.stackTraces = false) (Z : ZT) (hZ : wD Z) (X M O : SS) (p0 : Int32) (r : Int32) (hf : f_X7_isMember M p0 = some (r)) (sz : Nat) : vx_Met l yX7_isMember ws_X7_isMember rm_X7_isMember (va_Pc [.ref (Z.2.2 26 0), .int p0] (cP Z (X, M, O) sz)) (cQi Z (X, M, O) (.inl r) sz) (cX Z (X, M, O) (.inl r : Int32 ⊕ String) sz) 0 0 (wA Z sz) := by
  refine vx_ofW (cc := cX7_isMember) (maxL := 2) (ret := (some .boolean)) (by decide) rfl ?_
  intro p e s m args below meth c s₁ B hml htab hv
  obtain ⟨hargs, hsz, hE, hP, hK⟩ := hv
  have hx := B.exec
  have hb := B.bytes
  have hr := B.returns
  have hts0 := atoms_spec (ws := ws_X7_isMember) B.pre
  have hts : ∀ w ∈ lw_all, w.before args s = true := fun w h => hts0 w (List.mem_cons_of_mem _ h)
  have hown : s.vm.findClass RX7 = some m.cls := findClass_of_methodNamed B.named
  have hlocks := B.notSynchronized
  have hout9 : ∀ (pc9 : Nat), ∀ x ∈ c.exceptionTable.toList, covers x pc9 = false := fun _ x hx9 => (htab x hx9).elim
  subst hsz
  have hS : va_S (wA Z s.heap.size) s.heap s.heap [] := va_S.rf
  have hl := lv_entry ([.ref (Z.2.2 26 0), .int p0]) (n := 2) (Nat.le_of_ble_eq_true rfl)
  have hen : entryFrame m args 2 = entryFrame m ([.ref (Z.2.2 26 0), .int p0] : List Value).toArray 2 := by rw [hargs]
  rw [hen, lg_entry_eq]
  generalize (lg_sl ([.ref (Z.2.2 26 0), .int p0]) ++ List.replicate (2 - (lg_sl ([.ref (Z.2.2 26 0), .int p0])).length) Slot.unset).toArray = ls at hl ⊢
  have hl : lv_has ls 2 [(0, .ref (Z.2.2 26 0)), (1, .int p0)] := hl
  have hk := hf
  unfold f_X7_isMember at hk
  refine lv_iload_n hx hb dX7_isMember_0 rfl (lv_at hl 1 rfl) ?_
  refine lv_iconst (v := (0 : Int32)) hx hb dX7_isMember_1 (by decide) ?_
  refine lv_aload_n hx hb dX7_isMember_2 rfl (lv_at hl 0 rfl) ?_
  refine gf_RX7_22 hx hb hts hown hK hP (by decide) dX7_isMember_3 ?_
  refine lv_iconst (v := (1 : Int32)) hx hb dX7_isMember_6 (by decide) ?_
  refine lv_isub hx hb dX7_isMember_7 ?_
  obtain ⟨v1, hf2, hk⟩ := b0_s hk
  refine wc_iS0 (rest := []) (As := [.int p0, .int (0 : Int32), .int ((M.1 26 0 4) - (1 : Int32))]) ⟨hx, hb, hml, hown, hts⟩ (fun sz => k_X7_in l hfl Z hZ X M O p0 (0 : Int32) ((M.1 26 0 4) - (1 : Int32)) v1 hf2 sz) (cw_RX7_161 (args := args) (s := s) hts (Nat.le_of_ble_eq_true rfl) (Nat.le_of_ble_eq_true rfl)) hE hP hK hS  rfl hl.1 rfl (Nat.le_of_ble_eq_true rfl) dX7_isMember_8 ⟨Nat.le_of_ble_eq_true rfl, Nat.le_of_ble_eq_true rfl⟩ (fun H locs hP hS => ?_)
  obtain ⟨hg3, hk⟩ := gd_s hk
  cases (show some _ = some _ from hk)
  exact we_z hx hb hr hlocks hg3.1 hP rfl hS dX7_isMember_11 (by decide) (by decide)
set_option maxHeartbeats 4000000 in
set_option maxRecDepth 100000 in
theorem k_X7_isWork (l : Launch) (hfl : l.stackTraces = false) (Z : ZT) (hZ : wD Z) (X M O : SS) (p0 : Int32) (r : Int32) (hf : f_X7_isWork M p0 = some (r)) (sz : Nat) : vx_Met l yX7_isWork ws_X7_isWork rm_X7_isWork (va_Pc [.ref (Z.2.2 26 0), .int p0] (cP Z (X, M, O) sz)) (cQi Z (X, M, O) (.inl r) sz) (cX Z (X, M, O) (.inl r : Int32 ⊕ String) sz) 0 0 (wA Z sz) := by
  refine vx_ofW (cc := cX7_isWork) (maxL := 2) (ret := (some .boolean)) (by decide) rfl ?_
  intro p e s m args below meth c s₁ B hml htab hv
  obtain ⟨hargs, hsz, hE, hP, hK⟩ := hv
  have hx := B.exec
  have hb := B.bytes
  have hr := B.returns
  have hts0 := atoms_spec (ws := ws_X7_isWork) B.pre
  have hts : ∀ w ∈ lw_all, w.before args s = true := fun w h => hts0 w (List.mem_cons_of_mem _ h)
  have hown : s.vm.findClass RX7 = some m.cls := findClass_of_methodNamed B.named
  have hlocks := B.notSynchronized
  have hout9 : ∀ (pc9 : Nat), ∀ x ∈ c.exceptionTable.toList, covers x pc9 = false := fun _ x hx9 => (htab x hx9).elim
  subst hsz
  have hS : va_S (wA Z s.heap.size) s.heap s.heap [] := va_S.rf
  have hl := lv_entry ([.ref (Z.2.2 26 0), .int p0]) (n := 2) (Nat.le_of_ble_eq_true rfl)
  have hen : entryFrame m args 2 = entryFrame m ([.ref (Z.2.2 26 0), .int p0] : List Value).toArray 2 := by rw [hargs]
  rw [hen, lg_entry_eq]
  generalize (lg_sl ([.ref (Z.2.2 26 0), .int p0]) ++ List.replicate (2 - (lg_sl ([.ref (Z.2.2 26 0), .int p0])).length) Slot.unset).toArray = ls at hl ⊢
  have hl : lv_has ls 2 [(0, .ref (Z.2.2 26 0)), (1, .int p0)] := hl
  have hk := hf
  unfold f_X7_isWork at hk
  refine lv_iload_n hx hb dX7_isWork_0 rfl (lv_at hl 1 rfl) ?_
  refine lv_iconst (v := (0 : Int32)) hx hb dX7_isWork_1 (by decide) ?_
  refine lv_aload_n hx hb dX7_isWork_2 rfl (lv_at hl 0 rfl) ?_
  refine gf_RX7_25 hx hb hts hown hK hP (by decide) dX7_isWork_3 ?_
  refine lv_iconst (v := (1 : Int32)) hx hb dX7_isWork_6 (by decide) ?_
  refine lv_isub hx hb dX7_isWork_7 ?_
  obtain ⟨v1, hf2, hk⟩ := b0_s hk
  refine wc_iS0 (rest := []) (As := [.int p0, .int (0 : Int32), .int ((M.1 26 0 5) - (1 : Int32))]) ⟨hx, hb, hml, hown, hts⟩ (fun sz => k_X7_in l hfl Z hZ X M O p0 (0 : Int32) ((M.1 26 0 5) - (1 : Int32)) v1 hf2 sz) (cw_RX7_161 (args := args) (s := s) hts (Nat.le_of_ble_eq_true rfl) (Nat.le_of_ble_eq_true rfl)) hE hP hK hS  rfl hl.1 rfl (Nat.le_of_ble_eq_true rfl) dX7_isWork_8 ⟨Nat.le_of_ble_eq_true rfl, Nat.le_of_ble_eq_true rfl⟩ (fun H locs hP hS => ?_)
  obtain ⟨hg3, hk⟩ := gd_s hk
  cases (show some _ = some _ from hk)
  exact we_z hx hb hr hlocks hg3.1 hP rfl hS dX7_isWork_11 (by decide) (by decide)
set_option maxHeartbeats 4000000 in
set_option maxRecDepth 100000 in
theorem k_X7_member (l : Launch) (hfl : l.stackTraces = false) (Z : ZT) (hZ : wD Z) (X M O : SS) (Mz : SS) (r : Int32) (hf : f_X7_member M = some (Mz, r)) (sz : Nat) : vx_Met l yX7_member ws_X7_member rm_X7_member (va_Pc [.ref (Z.2.2 26 0)] (cP Z (X, M, O) sz)) (cQi Z (X, Mz, O) (.inl r) sz) (cX Z (X, Mz, O) (.inl r : Int32 ⊕ String) sz) 0 0 (wA Z sz) := by
  refine vx_ofW (cc := cX7_member) (maxL := 1) (ret := (some .int)) (by decide) rfl ?_
  intro p e s m args below meth c s₁ B hml htab hv
  obtain ⟨hargs, hsz, hE, hP, hK⟩ := hv
  have hx := B.exec
  have hb := B.bytes
  have hr := B.returns
  have hts0 := atoms_spec (ws := ws_X7_member) B.pre
  have hts : ∀ w ∈ lw_all, w.before args s = true := fun w h => hts0 w (List.mem_cons_of_mem _ h)
  have hown : s.vm.findClass RX7 = some m.cls := findClass_of_methodNamed B.named
  have hlocks := B.notSynchronized
  have hout9 : ∀ (pc9 : Nat), ∀ x ∈ c.exceptionTable.toList, covers x pc9 = false := fun _ x hx9 => (htab x hx9).elim
  subst hsz
  have hS : va_S (wA Z s.heap.size) s.heap s.heap [] := va_S.rf
  have hl := lv_entry ([.ref (Z.2.2 26 0)]) (n := 1) (Nat.le_of_ble_eq_true rfl)
  have hen : entryFrame m args 1 = entryFrame m ([.ref (Z.2.2 26 0)] : List Value).toArray 1 := by rw [hargs]
  rw [hen, lg_entry_eq]
  generalize (lg_sl ([.ref (Z.2.2 26 0)]) ++ List.replicate (1 - (lg_sl ([.ref (Z.2.2 26 0)])).length) Slot.unset).toArray = ls at hl ⊢
  have hl : lv_has ls 1 [(0, .ref (Z.2.2 26 0))] := hl
  have hk := hf
  unfold f_X7_member at hk
  refine lv_aload_n hx hb dX7_member_0 rfl (lv_at hl 0 rfl) ?_
  refine gf_RX7_22 hx hb hts hown hK hP (by decide) dX7_member_1 ?_
  refine lv_bipush (v := (10 : Int32)) hx hb dX7_member_4 (by decide) ?_
  refine lv_icmp_ne (tgt := 15) hx hb dX7_member_6 (by decide) (fun cz1 => ?_) (fun cz1 => ?_)
  · have hk := it_f cz1 hk
    refine lv_aload_n hx hb dX7_member_15 rfl (lv_at hl 0 rfl) ?_
    refine gf_RX7_116 hx hb hts hown hK hP (by decide) dX7_member_16 ?_
    refine lv_aload_n hx hb dX7_member_19 rfl (lv_at hl 0 rfl) ?_
    refine gf_RX7_22 hx hb hts hown hK hP (by decide) dX7_member_20 ?_
    refine lv_bipush (v := (10 : Int32)) hx hb dX7_member_23 (by decide) ?_
    obtain ⟨hg2, hk⟩ := gd_s hk
    obtain ⟨M3, eM3, hk⟩ := lq_s hk
    refine wa_iastore_51 hx hb hZ hK hP hS (by decide) hg2 dX7_member_25 (fun H locs hP hS => ?_)
    rw [← eM3] at hP
    refine lv_aload_n hx hb dX7_member_26 rfl (lv_at hl 0 rfl) ?_
    refine lv_dup hx hb dX7_member_27 rfl ?_
    refine gf_RX7_22 hx hb hts hown hK hP (by decide) dX7_member_28 ?_
    refine lv_iconst (v := (1 : Int32)) hx hb dX7_member_31 (by decide) ?_
    refine lv_iadd hx hb dX7_member_32 ?_
    obtain ⟨M4, eM4, hk⟩ := lq_s hk
    refine pf_RX7_22 hx hb hts hown hZ hK hP hS (by decide) dX7_member_33 (fun H locs hP hS => ?_)
    rw [← eM4] at hP
    refine lv_aload_n hx hb dX7_member_36 rfl (lv_at hl 0 rfl) ?_
    refine lv_aload_n hx hb dX7_member_37 rfl (lv_at hl 0 rfl) ?_
    refine gf_RX7_22 hx hb hts hown hK hP (by decide) dX7_member_38 ?_
    refine lv_iconst (v := (1 : Int32)) hx hb dX7_member_41 (by decide) ?_
    refine lv_isub hx hb dX7_member_42 ?_
    obtain ⟨M6, v5, hf7, hk⟩ := b1_s hk
    refine wc_iV0 (rest := []) (As := [.int ((M4.1 26 0 4) - (1 : Int32))]) ⟨hx, hb, hml, hown, hts⟩ (fun sz => k_X7_tells l hfl Z hZ X M4 O ((M4.1 26 0 4) - (1 : Int32)) M6 v5 hf7 sz) (cw_RX7_169 (args := args) (s := s) hts (Nat.le_of_ble_eq_true rfl) (Nat.le_of_ble_eq_true rfl)) hE hP hK hS (rv_26 hK hP (by decide)) rfl hl.1 rfl (Nat.le_of_ble_eq_true rfl) dX7_member_43 ⟨Nat.le_of_ble_eq_true rfl, Nat.le_of_ble_eq_true rfl⟩ (fun H locs hP hS => ?_)
    cases (show some _ = some _ from hk)
    exact we_i hx hb hr hlocks hP rfl hS dX7_member_46 (by decide) (by decide)
  · have hk := it_t cz1 hk
    refine lv_aload_n hx hb dX7_member_9 rfl (lv_at hl 0 rfl) ?_
    refine lv_iconst (v := (1 : Int32)) hx hb dX7_member_10 (by decide) ?_
    obtain ⟨M9, v8, hf10, hk⟩ := b1_s hk
    refine wc_iV0 (rest := []) (As := [.int (1 : Int32)]) ⟨hx, hb, hml, hown, hts⟩ (fun sz => k_X7_fails l hfl Z hZ X M O (1 : Int32) M9 v8 hf10 sz) (cw_RX7_165 (args := args) (s := s) hts (Nat.le_of_ble_eq_true rfl) (Nat.le_of_ble_eq_true rfl)) hE hP hK hS (rv_26 hK hP (by decide)) rfl hl.1 rfl (Nat.le_of_ble_eq_true rfl) dX7_member_11 ⟨Nat.le_of_ble_eq_true rfl, Nat.le_of_ble_eq_true rfl⟩ (fun H locs hP hS => ?_)
    cases (show some _ = some _ from hk)
    exact we_i hx hb hr hlocks hP rfl hS dX7_member_14 (by decide) (by decide)
set_option maxHeartbeats 4000000 in
set_option maxRecDepth 100000 in
theorem k_X7_copies (l : Launch) (hfl : l.stackTraces = false) (Z : ZT) (hZ : wD Z) (X M O : SS) (p0 : Int32) (p1 : Int32) (Mz : SS) (r : Unit) (hf : f_X7_copies M p0 p1 = some (Mz, r)) (sz : Nat) : vx_Met l yX7_copies ws_X7_copies rm_X7_copies (va_Pc [.ref (Z.2.2 26 0), .int p0, .int p1] (cP Z (X, M, O) sz)) (cQv Z (X, Mz, O) (.inl ()) sz) (cX Z (X, Mz, O) (.inl () : Unit ⊕ String) sz) 0 0 (wA Z sz) := by
  refine vx_ofW (cc := cX7_copies) (maxL := 4) (ret := none) (by decide) rfl ?_
  intro p e s m args below meth c s₁ B hml htab hv
  obtain ⟨hargs, hsz, hE, hP, hK⟩ := hv
  have hx := B.exec
  have hb := B.bytes
  have hr := B.returns
  have hts0 := atoms_spec (ws := ws_X7_copies) B.pre
  have hts : ∀ w ∈ lw_all, w.before args s = true := fun w h => hts0 w (List.mem_cons_of_mem _ h)
  have hown : s.vm.findClass RX7 = some m.cls := findClass_of_methodNamed B.named
  have hlocks := B.notSynchronized
  have hout9 : ∀ (pc9 : Nat), ∀ x ∈ c.exceptionTable.toList, covers x pc9 = false := fun _ x hx9 => (htab x hx9).elim
  subst hsz
  have hS : va_S (wA Z s.heap.size) s.heap s.heap [] := va_S.rf
  have hl := lv_entry ([.ref (Z.2.2 26 0), .int p0, .int p1]) (n := 4) (Nat.le_of_ble_eq_true rfl)
  have hen : entryFrame m args 4 = entryFrame m ([.ref (Z.2.2 26 0), .int p0, .int p1] : List Value).toArray 4 := by rw [hargs]
  rw [hen, lg_entry_eq]
  generalize (lg_sl ([.ref (Z.2.2 26 0), .int p0, .int p1]) ++ List.replicate (4 - (lg_sl ([.ref (Z.2.2 26 0), .int p0, .int p1])).length) Slot.unset).toArray = ls at hl ⊢
  have hl : lv_has ls 4 [(0, .ref (Z.2.2 26 0)), (1, .int p0), (2, .int p1)] := hl
  have hk := hf
  unfold f_X7_copies at hk
  refine lv_aload_n hx hb dX7_copies_0 rfl (lv_at hl 0 rfl) ?_
  refine gf_RX7_48 hx hb hts hown hK hP (by decide) dX7_copies_1 ?_
  refine lv_iload_n hx hb dX7_copies_4 rfl (lv_at hl 2 rfl) ?_
  refine lv_aload_n hx hb dX7_copies_5 rfl (lv_at hl 0 rfl) ?_
  refine gf_RX7_48 hx hb hts hown hK hP (by decide) dX7_copies_6 ?_
  refine lv_iload_n hx hb dX7_copies_9 rfl (lv_at hl 1 rfl) ?_
  obtain ⟨hg1, hk⟩ := gd_s hk
  refine wa_iaload_29 hx hb hK hP (by decide) hg1 dX7_copies_10 ?_
  obtain ⟨hg2, hk⟩ := gd_s hk
  obtain ⟨M3, eM3, hk⟩ := lq_s hk
  refine wa_iastore_29 hx hb hZ hK hP hS (by decide) hg2 dX7_copies_11 (fun H locs hP hS => ?_)
  rw [← eM3] at hP
  refine lv_iconst (v := (0 : Int32)) hx hb dX7_copies_12 (by decide) ?_
  refine lv_istore_n (lv' := [(3, .int (0 : Int32)), (0, .ref (Z.2.2 26 0)), (1, .int p0), (2, .int p1)]) hx hb dX7_copies_13 rfl hl (by decide) rfl (fun ls hl => ?_)
  obtain ⟨k4, hk4, hk⟩ := gn hk
  have ex4 : ∀ (M5 : SS) (H : Heap) (locs : List Loc) (ls : Array Slot), k4 M5 = some (Mz, r) → wP Z (X, M5, O) H → va_S (wA Z s.heap.size) s.heap H locs → lv_has ls 4 [] → W p l e (headSpec ws_X7_copies rm_X7_copies).room s m args below meth c H locs 0 0 (vx_MQ below (cQv Z (X, Mz, O) (.inl ()) s.heap.size) (cX Z (X, Mz, O) (.inl () : Unit ⊕ String) s.heap.size) args s 0 0 (wA Z s.heap.size)) (F0 m 74 ls []) := by
    intro M5 H locs ls hk hP hS hl
    subst hk4
    cases (show some _ = some _ from hk)
    exact we_v hx hb hr hlocks hP rfl hS dX7_copies_74 (by decide) (by decide)
  have lp4 : ∀ (n : Nat) (v6 : Int32) (M7 : SS) (H : Heap) (locs : List Loc) (ls : Array Slot), f_X7_copies_L14 p0 p1 n v6 M7 k4 = some (Mz, r) → wP Z (X, M7, O) H → va_S (wA Z s.heap.size) s.heap H locs → lv_has ls 4 [(3, .int v6), (0, .ref (Z.2.2 26 0)), (1, .int p0), (2, .int p1)] → W p l e (headSpec ws_X7_copies rm_X7_copies).room s m args below meth c H locs 0 0 (vx_MQ below (cQv Z (X, Mz, O) (.inl ()) s.heap.size) (cX Z (X, Mz, O) (.inl () : Unit ⊕ String) s.heap.size) args s 0 0 (wA Z s.heap.size)) (F0 m 14 ls []) := by
    intro n
    induction n with
    | zero =>
      intro v6 M7 H locs ls hk
      rw [f_X7_copies_L14] at hk
      exact nomatch (show none = some _ from hk)
    | succ n ih =>
      intro v6 M7 H locs ls hk hP hS hl
      rw [f_X7_copies_L14] at hk
      refine lv_iload_n hx hb dX7_copies_14 rfl (lv_at hl 0 rfl) ?_
      refine lv_aload_n hx hb dX7_copies_15 rfl (lv_at hl 1 rfl) ?_
      refine gf_RX7_48 hx hb hts hown hK hP (by decide) dX7_copies_16 ?_
      refine lv_iload_n hx hb dX7_copies_19 rfl (lv_at hl 2 rfl) ?_
      obtain ⟨hg8, hk⟩ := gd_s hk
      refine wa_iaload_29 hx hb hK hP (by decide) hg8 dX7_copies_20 ?_
      refine lv_icmp_ge (tgt := 74) hx hb dX7_copies_21 (by decide) (fun cz9 => ?_) (fun cz9 => ?_)
      · have hk := it_t cz9 hk
        exact ex4 M7 _ _ _ hk hP hS (lv_sub hl [] rfl)
      · have hk := it_f cz9 hk
        refine lv_aload_n hx hb dX7_copies_24 rfl (lv_at hl 1 rfl) ?_
        refine gf_RX7_40 hx hb hts hown hK hP (by decide) dX7_copies_25 ?_
        refine lv_bipush (v := (24 : Int32)) hx hb dX7_copies_28 (by decide) ?_
        refine lv_iload_n hx hb dX7_copies_30 rfl (lv_at hl 3 rfl) ?_
        refine lv_imul hx hb dX7_copies_31 ?_
        refine lv_iload_n hx hb dX7_copies_32 rfl (lv_at hl 0 rfl) ?_
        refine lv_iadd hx hb dX7_copies_33 ?_
        refine lv_aload_n hx hb dX7_copies_34 rfl (lv_at hl 1 rfl) ?_
        refine gf_RX7_40 hx hb hts hown hK hP (by decide) dX7_copies_35 ?_
        refine lv_bipush (v := (24 : Int32)) hx hb dX7_copies_38 (by decide) ?_
        refine lv_iload_n hx hb dX7_copies_40 rfl (lv_at hl 2 rfl) ?_
        refine lv_imul hx hb dX7_copies_41 ?_
        refine lv_iload_n hx hb dX7_copies_42 rfl (lv_at hl 0 rfl) ?_
        refine lv_iadd hx hb dX7_copies_43 ?_
        obtain ⟨hg10, hk⟩ := gd_s hk
        refine wa_caload_27 hx hb hK hP (by decide) hg10 dX7_copies_44 ?_
        obtain ⟨hg11, hk⟩ := gd_s hk
        obtain ⟨M12, eM12, hk⟩ := lq_s hk
        refine wa_castore_27 hx hb hZ hK hP hS (by decide) hg11 dX7_copies_45 (fun H locs hP hS => ?_)
        rw [← eM12] at hP
        refine lv_aload_n hx hb dX7_copies_46 rfl (lv_at hl 1 rfl) ?_
        refine gf_RX7_44 hx hb hts hown hK hP (by decide) dX7_copies_47 ?_
        refine lv_bipush (v := (24 : Int32)) hx hb dX7_copies_50 (by decide) ?_
        refine lv_iload_n hx hb dX7_copies_52 rfl (lv_at hl 3 rfl) ?_
        refine lv_imul hx hb dX7_copies_53 ?_
        refine lv_iload_n hx hb dX7_copies_54 rfl (lv_at hl 0 rfl) ?_
        refine lv_iadd hx hb dX7_copies_55 ?_
        refine lv_aload_n hx hb dX7_copies_56 rfl (lv_at hl 1 rfl) ?_
        refine gf_RX7_44 hx hb hts hown hK hP (by decide) dX7_copies_57 ?_
        refine lv_bipush (v := (24 : Int32)) hx hb dX7_copies_60 (by decide) ?_
        refine lv_iload_n hx hb dX7_copies_62 rfl (lv_at hl 2 rfl) ?_
        refine lv_imul hx hb dX7_copies_63 ?_
        refine lv_iload_n hx hb dX7_copies_64 rfl (lv_at hl 0 rfl) ?_
        refine lv_iadd hx hb dX7_copies_65 ?_
        obtain ⟨hg13, hk⟩ := gd_s hk
        refine wa_iaload_28 hx hb hK hP (by decide) hg13 dX7_copies_66 ?_
        obtain ⟨hg14, hk⟩ := gd_s hk
        obtain ⟨M15, eM15, hk⟩ := lq_s hk
        refine wa_iastore_28 hx hb hZ hK hP hS (by decide) hg14 dX7_copies_67 (fun H locs hP hS => ?_)
        rw [← eM15] at hP
        refine lv_iinc (v := (v6 + (1 : Int32))) (lv' := [(3, .int (v6 + (1 : Int32))), (0, .ref (Z.2.2 26 0)), (1, .int p0), (2, .int p1)]) hx hb dX7_copies_68 hl (k := 0) rfl rfl (by decide) rfl (fun ls hl => ?_)
        refine lv_goto (tgt := 14) hx hb dX7_copies_71 (by decide) ?_
        exact ih (v6 + (1 : Int32)) M15 _ _ _ hk hP hS (lv_sub hl [0, 1, 2, 3] rfl)
  exact lp4 1000 (0 : Int32) M3 _ _ _ hk hP hS (lv_sub hl [0, 1, 2, 3] rfl)