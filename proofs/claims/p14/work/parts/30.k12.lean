set_option maxHeartbeats 4000000 in
set_option maxRecDepth 100000 in
theorem k_X7_standingShare (l : Launch) (hfl : l.stackTraces = false) (Z : ZT) (hZ : wD Z) (X M O : SS) (Mz : SS) (r : UInt32) (hf : f_X7_standingShare M = some (Mz, r)) (sz : Nat) : vx_Met l yX7_standingShare ws_X7_standingShare rm_X7_standingShare (va_Pc [.ref (Z.2.2 26 0)] (cP Z (X, M, O) sz)) (cQf Z (X, Mz, O) (.inl r) sz) (cX Z (X, Mz, O) (.inl r : UInt32 ⊕ String) sz) 0 0 (wA Z sz) := by
  refine vx_ofW (cc := cX7_standingShare) (maxL := 3) (ret := (some .float)) (by decide) rfl ?_
  intro p e s m args below meth c s₁ B hml htab hv
  obtain ⟨hargs, hsz, hE, hP, hK⟩ := hv
  have hx := B.exec
  have hb := B.bytes
  have hr := B.returns
  have hts0 := atoms_spec (ws := ws_X7_standingShare) B.pre
  have hts : ∀ w ∈ lw_all, w.before args s = true := fun w h => hts0 w (List.mem_cons_of_mem _ h)
  have hown : s.vm.findClass RX7 = some m.cls := findClass_of_methodNamed B.named
  have hlocks := B.notSynchronized
  have hout9 : ∀ (pc9 : Nat), ∀ x ∈ c.exceptionTable.toList, covers x pc9 = false := fun _ x hx9 => (htab x hx9).elim
  subst hsz
  have hS : va_S (wA Z s.heap.size) s.heap s.heap [] := va_S.rf
  have hl := lv_entry ([.ref (Z.2.2 26 0)]) (n := 3) (Nat.le_of_ble_eq_true rfl)
  have hen : entryFrame m args 3 = entryFrame m ([.ref (Z.2.2 26 0)] : List Value).toArray 3 := by rw [hargs]
  rw [hen, lg_entry_eq]
  generalize (lg_sl ([.ref (Z.2.2 26 0)]) ++ List.replicate (3 - (lg_sl ([.ref (Z.2.2 26 0)])).length) Slot.unset).toArray = ls at hl ⊢
  have hl : lv_has ls 3 [(0, .ref (Z.2.2 26 0))] := hl
  have hk := hf
  unfold f_X7_standingShare at hk
  refine lv_aload_n hx hb dX7_standingShare_0 rfl (lv_at hl 0 rfl) ?_
  refine lv_aload_n hx hb dX7_standingShare_1 rfl (lv_at hl 0 rfl) ?_
  refine gf_RX7_25 hx hb hts hown hK hP (by decide) dX7_standingShare_2 ?_
  have jn2 : ∀ (v1 : Int32) (H : Heap) (locs : List Loc) (ls : Array Slot), f_X7_standingShare_J13 M v1 = some (Mz, r) → wP Z (X, M, O) H → va_S (wA Z s.heap.size) s.heap H locs → lv_has ls 3 [(0, .ref (Z.2.2 26 0))] → W p l e (headSpec ws_X7_standingShare rm_X7_standingShare).room s m args below meth c H locs 0 0 (vx_MQ below (cQf Z (X, Mz, O) (.inl r) s.heap.size) (cX Z (X, Mz, O) (.inl r : UInt32 ⊕ String) s.heap.size) args s 0 0 (wA Z s.heap.size)) (F0 m 13 ls [.int v1, .ref (Z.2.2 26 0)]) := by
    intro v1 H locs ls hk hP hS hl
    unfold f_X7_standingShare_J13 at hk
    obtain ⟨M3, eM3, hk⟩ := lq_s hk
    refine pf_RX7_37 hx hb hts hown hZ hK hP hS (by decide) dX7_standingShare_13 (fun H locs hP hS => ?_)
    rw [← eM3] at hP
    refine lv_iconst (v := (0 : Int32)) hx hb dX7_standingShare_16 (by decide) ?_
    refine lv_istore_n (lv' := [(1, .int (0 : Int32)), (0, .ref (Z.2.2 26 0))]) hx hb dX7_standingShare_17 rfl hl (by decide) rfl (fun ls hl => ?_)
    refine lv_iconst (v := (0 : Int32)) hx hb dX7_standingShare_18 (by decide) ?_
    refine lv_istore_n (lv' := [(2, .int (0 : Int32)), (1, .int (0 : Int32)), (0, .ref (Z.2.2 26 0))]) hx hb dX7_standingShare_19 rfl hl (by decide) rfl (fun ls hl => ?_)
    obtain ⟨k4, hk4, hk⟩ := gn hk
    have ex4 : ∀ (v5 : Int32) (H : Heap) (locs : List Loc) (ls : Array Slot), k4 v5 = some (Mz, r) → wP Z (X, M3, O) H → va_S (wA Z s.heap.size) s.heap H locs → lv_has ls 3 [(1, .int v5), (0, .ref (Z.2.2 26 0))] → W p l e (headSpec ws_X7_standingShare rm_X7_standingShare).room s m args below meth c H locs 0 0 (vx_MQ below (cQf Z (X, Mz, O) (.inl r) s.heap.size) (cX Z (X, Mz, O) (.inl r : UInt32 ⊕ String) s.heap.size) args s 0 0 (wA Z s.heap.size)) (F0 m 50 ls []) := by
      intro v5 H locs ls hk hP hS hl
      subst hk4
      refine lv_aload_n hx hb dX7_standingShare_50 rfl (lv_at hl 1 rfl) ?_
      refine gf_RX7_37 hx hb hts hown hK hP (by decide) dX7_standingShare_51 ?_
      refine lv_if_le (tgt := 61) hx hb dX7_standingShare_54 (by decide) (fun cz8 => ?_) (fun cz8 => ?_)
      · have hk := it_t cz8 hk
        refine lv_iload_n hx hb dX7_standingShare_61 rfl (lv_at hl 0 rfl) ?_
        refine lv_i2f hx hb dX7_standingShare_62 ?_
        refine lv_aload_n hx hb dX7_standingShare_63 rfl (lv_at hl 1 rfl) ?_
        refine gf_RX7_25 hx hb hts hown hK hP (by decide) dX7_standingShare_64 ?_
        refine lv_i2f hx hb dX7_standingShare_67 ?_
        obtain ⟨hg9, hk⟩ := gd_s hk
        refine lv_fdiv hx hb dX7_standingShare_68 hg9 ?_
        cases (show some _ = some _ from hk)
        exact we_f hx hb hr hlocks hP rfl hS dX7_standingShare_69 (by decide) (by decide)
      · have hk := it_f cz8 hk
        refine lv_fconst0 hx hb dX7_standingShare_57 ?_
        refine lv_goto (tgt := 69) hx hb dX7_standingShare_58 (by decide) ?_
        cases (show some _ = some _ from hk)
        exact we_f hx hb hr hlocks hP rfl hS dX7_standingShare_69 (by decide) (by decide)
    have lp4 : ∀ (n : Nat) (v6 : Int32) (v7 : Int32) (H : Heap) (locs : List Loc) (ls : Array Slot), f_X7_standingShare_L20 M3 n v6 v7 k4 = some (Mz, r) → wP Z (X, M3, O) H → va_S (wA Z s.heap.size) s.heap H locs → lv_has ls 3 [(2, .int v6), (1, .int v7), (0, .ref (Z.2.2 26 0))] → W p l e (headSpec ws_X7_standingShare rm_X7_standingShare).room s m args below meth c H locs 0 0 (vx_MQ below (cQf Z (X, Mz, O) (.inl r) s.heap.size) (cX Z (X, Mz, O) (.inl r : UInt32 ⊕ String) s.heap.size) args s 0 0 (wA Z s.heap.size)) (F0 m 20 ls []) := by
      intro n
      induction n with
      | zero =>
        intro v6 v7 H locs ls hk
        rw [f_X7_standingShare_L20] at hk
        exact nomatch (show none = some _ from hk)
      | succ n ih =>
        intro v6 v7 H locs ls hk hP hS hl
        rw [f_X7_standingShare_L20] at hk
        refine lv_iload_n hx hb dX7_standingShare_20 rfl (lv_at hl 0 rfl) ?_
        refine lv_aload_n hx hb dX7_standingShare_21 rfl (lv_at hl 2 rfl) ?_
        refine gf_RX7_25 hx hb hts hown hK hP (by decide) dX7_standingShare_22 ?_
        refine lv_icmp_ge (tgt := 50) hx hb dX7_standingShare_25 (by decide) (fun cz10 => ?_) (fun cz10 => ?_)
        · have hk := it_t cz10 hk
          exact ex4 v7 _ _ _ hk hP hS (lv_sub hl [1, 2] rfl)
        · have hk := it_f cz10 hk
          refine lv_iload_n hx hb dX7_standingShare_28 rfl (lv_at hl 1 rfl) ?_
          refine lv_aload_n hx hb dX7_standingShare_29 rfl (lv_at hl 2 rfl) ?_
          refine lv_iload_n hx hb dX7_standingShare_30 rfl (lv_at hl 0 rfl) ?_
          obtain ⟨v11, hf12, hk⟩ := b0_s hk
          refine wc_iV0 (rest := [.int v7]) (As := [.int v6]) ⟨hx, hb, hml, hown, hts⟩ (fun sz => k_X7_counts l hfl Z hZ X M3 O v6 v11 hf12 sz) (cw_RX7_265 (args := args) (s := s) hts (Nat.le_of_ble_eq_true rfl) (Nat.le_of_ble_eq_true rfl)) hE hP hK hS (rv_26 hK hP (by decide)) rfl hl.1 rfl (Nat.le_of_ble_eq_true rfl) dX7_standingShare_31 ⟨Nat.le_of_ble_eq_true rfl, Nat.le_of_ble_eq_true rfl⟩ (fun H locs hP hS => ?_)
          refine lv_if_eq (tgt := 41) hx hb dX7_standingShare_34 (by decide) (fun cz13 => ?_) (fun cz13 => ?_)
          · have hk := it_t cz13 hk
            refine lv_iconst (v := (0 : Int32)) hx hb dX7_standingShare_41 (by decide) ?_
            refine lv_iadd hx hb dX7_standingShare_42 ?_
            obtain ⟨v14, ev14, hk⟩ := lq_s hk
            refine W.eq (g2 := F0 m 43 ls [.int v14]) (by rw [ev14]) ?_
            refine lv_istore_n (lv' := [(1, .int v14), (2, .int v6), (0, .ref (Z.2.2 26 0))]) hx hb dX7_standingShare_43 rfl hl (by decide) rfl (fun ls hl => ?_)
            refine lv_iinc (v := (v6 + (1 : Int32))) (lv' := [(2, .int (v6 + (1 : Int32))), (1, .int v14), (0, .ref (Z.2.2 26 0))]) hx hb dX7_standingShare_44 hl (k := 1) rfl rfl (by decide) rfl (fun ls hl => ?_)
            refine lv_goto (tgt := 20) hx hb dX7_standingShare_47 (by decide) ?_
            exact ih (v6 + (1 : Int32)) v14 _ _ _ hk hP hS (lv_sub hl [0, 1, 2] rfl)
          · have hk := it_f cz13 hk
            refine lv_iconst (v := (1 : Int32)) hx hb dX7_standingShare_37 (by decide) ?_
            refine lv_goto (tgt := 42) hx hb dX7_standingShare_38 (by decide) ?_
            refine lv_iadd hx hb dX7_standingShare_42 ?_
            obtain ⟨v15, ev15, hk⟩ := lq_s hk
            refine W.eq (g2 := F0 m 43 ls [.int v15]) (by rw [ev15]) ?_
            refine lv_istore_n (lv' := [(1, .int v15), (2, .int v6), (0, .ref (Z.2.2 26 0))]) hx hb dX7_standingShare_43 rfl hl (by decide) rfl (fun ls hl => ?_)
            refine lv_iinc (v := (v6 + (1 : Int32))) (lv' := [(2, .int (v6 + (1 : Int32))), (1, .int v15), (0, .ref (Z.2.2 26 0))]) hx hb dX7_standingShare_44 hl (k := 1) rfl rfl (by decide) rfl (fun ls hl => ?_)
            refine lv_goto (tgt := 20) hx hb dX7_standingShare_47 (by decide) ?_
            exact ih (v6 + (1 : Int32)) v15 _ _ _ hk hP hS (lv_sub hl [0, 1, 2] rfl)
    exact lp4 1000 (0 : Int32) (0 : Int32) _ _ _ hk hP hS (lv_sub hl [0, 1, 2] rfl)
  refine lv_if_ne (tgt := 12) hx hb dX7_standingShare_5 (by decide) (fun cz16 => ?_) (fun cz16 => ?_)
  · have hk := it_f cz16 hk
    refine lv_iconst (v := (0 : Int32)) hx hb dX7_standingShare_12 (by decide) ?_
    exact jn2 (0 : Int32) _ _ _ hk hP hS (lv_sub hl [0] rfl)
  · have hk := it_t cz16 hk
    refine lv_iconst (v := (1 : Int32)) hx hb dX7_standingShare_8 (by decide) ?_
    refine lv_goto (tgt := 13) hx hb dX7_standingShare_9 (by decide) ?_
    exact jn2 (1 : Int32) _ _ _ hk hP hS (lv_sub hl [0] rfl)
set_option maxHeartbeats 4000000 in
set_option maxRecDepth 100000 in
theorem k_X7_meanSteps (l : Launch) (hfl : l.stackTraces = false) (Z : ZT) (hZ : wD Z) (X M O : SS) (p0 : Int32) (Mz : SS) (r : UInt64) (hf : f_X7_meanSteps M p0 = some (Mz, r)) (sz : Nat) : vx_Met l yX7_meanSteps ws_X7_meanSteps rm_X7_meanSteps (va_Pc [.ref (Z.2.2 26 0), .int p0] (cP Z (X, M, O) sz)) (cQd Z (X, Mz, O) (.inl r) sz) (cX Z (X, Mz, O) (.inl r : UInt64 ⊕ String) sz) 0 0 (wA Z sz) := by
  refine vx_ofW (cc := cX7_meanSteps) (maxL := 6) (ret := (some .double)) (by decide) rfl ?_
  intro p e s m args below meth c s₁ B hml htab hv
  obtain ⟨hargs, hsz, hE, hP, hK⟩ := hv
  have hx := B.exec
  have hb := B.bytes
  have hr := B.returns
  have hts0 := atoms_spec (ws := ws_X7_meanSteps) B.pre
  have hts : ∀ w ∈ lw_all, w.before args s = true := fun w h => hts0 w (List.mem_cons_of_mem _ h)
  have hown : s.vm.findClass RX7 = some m.cls := findClass_of_methodNamed B.named
  have hlocks := B.notSynchronized
  have hout9 : ∀ (pc9 : Nat), ∀ x ∈ c.exceptionTable.toList, covers x pc9 = false := fun _ x hx9 => (htab x hx9).elim
  subst hsz
  have hS : va_S (wA Z s.heap.size) s.heap s.heap [] := va_S.rf
  have hl := lv_entry ([.ref (Z.2.2 26 0), .int p0]) (n := 6) (Nat.le_of_ble_eq_true rfl)
  have hen : entryFrame m args 6 = entryFrame m ([.ref (Z.2.2 26 0), .int p0] : List Value).toArray 6 := by rw [hargs]
  rw [hen, lg_entry_eq]
  generalize (lg_sl ([.ref (Z.2.2 26 0), .int p0]) ++ List.replicate (6 - (lg_sl ([.ref (Z.2.2 26 0), .int p0])).length) Slot.unset).toArray = ls at hl ⊢
  have hl : lv_has ls 6 [(0, .ref (Z.2.2 26 0)), (1, .int p0)] := hl
  have hk := hf
  unfold f_X7_meanSteps at hk
  refine lv_aload_n hx hb dX7_meanSteps_0 rfl (lv_at hl 0 rfl) ?_
  refine lv_aload_n hx hb dX7_meanSteps_1 rfl (lv_at hl 0 rfl) ?_
  refine lv_iload_n hx hb dX7_meanSteps_2 rfl (lv_at hl 1 rfl) ?_
  obtain ⟨v1, hf2, hk⟩ := b0_s hk
  refine wc_iV0 (rest := [.ref (Z.2.2 26 0)]) (As := [.int p0]) ⟨hx, hb, hml, hown, hts⟩ (fun sz => k_X7_isWork l hfl Z hZ X M O p0 v1 hf2 sz) (cw_RX7_227 (args := args) (s := s) hts (Nat.le_of_ble_eq_true rfl) (Nat.le_of_ble_eq_true rfl)) hE hP hK hS (rv_26 hK hP (by decide)) rfl hl.1 rfl (Nat.le_of_ble_eq_true rfl) dX7_meanSteps_3 ⟨Nat.le_of_ble_eq_true rfl, Nat.le_of_ble_eq_true rfl⟩ (fun H locs hP hS => ?_)
  have jn4 : ∀ (v3 : Int32) (H : Heap) (locs : List Loc) (ls : Array Slot), f_X7_meanSteps_J14 M p0 v3 = some (Mz, r) → wP Z (X, M, O) H → va_S (wA Z s.heap.size) s.heap H locs → lv_has ls 6 [(0, .ref (Z.2.2 26 0)), (1, .int p0)] → W p l e (headSpec ws_X7_meanSteps rm_X7_meanSteps).room s m args below meth c H locs 0 0 (vx_MQ below (cQd Z (X, Mz, O) (.inl r) s.heap.size) (cX Z (X, Mz, O) (.inl r : UInt64 ⊕ String) s.heap.size) args s 0 0 (wA Z s.heap.size)) (F0 m 14 ls [.int v3, .ref (Z.2.2 26 0)]) := by
    intro v3 H locs ls hk hP hS hl
    unfold f_X7_meanSteps_J14 at hk
    obtain ⟨M5, eM5, hk⟩ := lq_s hk
    refine pf_RX7_37 hx hb hts hown hZ hK hP hS (by decide) dX7_meanSteps_14 (fun H locs hP hS => ?_)
    rw [← eM5] at hP
    refine lv_aload_n hx hb dX7_meanSteps_17 rfl (lv_at hl 0 rfl) ?_
    refine gf_RX7_37 hx hb hts hown hK hP (by decide) dX7_meanSteps_18 ?_
    refine lv_if_le (tgt := 26) hx hb dX7_meanSteps_21 (by decide) (fun cz6 => ?_) (fun cz6 => ?_)
    · have hk := it_t cz6 hk
      refine lv_iconst (v := (0 : Int32)) hx hb dX7_meanSteps_26 (by decide) ?_
      refine lv_istore_n (lv' := [(2, .int (0 : Int32)), (0, .ref (Z.2.2 26 0)), (1, .int p0)]) hx hb dX7_meanSteps_27 rfl hl (by decide) rfl (fun ls hl => ?_)
      refine lv_iconst (v := (0 : Int32)) hx hb dX7_meanSteps_28 (by decide) ?_
      refine lv_istore_n (lv' := [(3, .int (0 : Int32)), (2, .int (0 : Int32)), (0, .ref (Z.2.2 26 0)), (1, .int p0)]) hx hb dX7_meanSteps_29 rfl hl (by decide) rfl (fun ls hl => ?_)
      refine lv_iconst (v := (0 : Int32)) hx hb dX7_meanSteps_30 (by decide) ?_
      refine lv_istore (lv' := [(4, .int (0 : Int32)), (3, .int (0 : Int32)), (2, .int (0 : Int32)), (0, .ref (Z.2.2 26 0)), (1, .int p0)]) hx hb dX7_meanSteps_31 hl (by decide) rfl (fun ls hl => ?_)
      obtain ⟨k7, hk7, hk⟩ := gn hk
      have ex7 : ∀ (v8 : Int32) (v9 : Int32) (M10 : SS) (H : Heap) (locs : List Loc) (ls : Array Slot), k7 v8 v9 M10 = some (Mz, r) → wP Z (X, M10, O) H → va_S (wA Z s.heap.size) s.heap H locs → lv_has ls 6 [(3, .int v8), (2, .int v9), (0, .ref (Z.2.2 26 0))] → W p l e (headSpec ws_X7_meanSteps rm_X7_meanSteps).room s m args below meth c H locs 0 0 (vx_MQ below (cQd Z (X, Mz, O) (.inl r) s.heap.size) (cX Z (X, Mz, O) (.inl r : UInt64 ⊕ String) s.heap.size) args s 0 0 (wA Z s.heap.size)) (F0 m 93 ls []) := by
        intro v8 v9 M10 H locs ls hk hP hS hl
        subst hk7
        refine lv_aload_n hx hb dX7_meanSteps_93 rfl (lv_at hl 2 rfl) ?_
        refine lv_iload_n hx hb dX7_meanSteps_94 rfl (lv_at hl 0 rfl) ?_
        have jn16 : ∀ (v15 : Int32) (H : Heap) (locs : List Loc) (ls : Array Slot), f_X7_meanSteps_J103 M10 v9 v8 v15 = some (Mz, r) → wP Z (X, M10, O) H → va_S (wA Z s.heap.size) s.heap H locs → lv_has ls 6 [(3, .int v8), (2, .int v9), (0, .ref (Z.2.2 26 0))] → W p l e (headSpec ws_X7_meanSteps rm_X7_meanSteps).room s m args below meth c H locs 0 0 (vx_MQ below (cQd Z (X, Mz, O) (.inl r) s.heap.size) (cX Z (X, Mz, O) (.inl r : UInt64 ⊕ String) s.heap.size) args s 0 0 (wA Z s.heap.size)) (F0 m 103 ls [.int v15, .ref (Z.2.2 26 0)]) := by
          intro v15 H locs ls hk hP hS hl
          unfold f_X7_meanSteps_J103 at hk
          obtain ⟨M17, eM17, hk⟩ := lq_s hk
          refine pf_RX7_37 hx hb hts hown hZ hK hP hS (by decide) dX7_meanSteps_103 (fun H locs hP hS => ?_)
          rw [← eM17] at hP
          refine lv_aload_n hx hb dX7_meanSteps_106 rfl (lv_at hl 2 rfl) ?_
          refine gf_RX7_37 hx hb hts hown hK hP (by decide) dX7_meanSteps_107 ?_
          refine lv_if_le (tgt := 117) hx hb dX7_meanSteps_110 (by decide) (fun cz18 => ?_) (fun cz18 => ?_)
          · have hk := it_t cz18 hk
            refine lv_iload_n hx hb dX7_meanSteps_117 rfl (lv_at hl 1 rfl) ?_
            refine lv_i2d hx hb dX7_meanSteps_118 ?_
            refine lv_iload_n hx hb dX7_meanSteps_119 rfl (lv_at hl 0 rfl) ?_
            refine lv_i2d hx hb dX7_meanSteps_120 ?_
            obtain ⟨hg19, hk⟩ := gd_s hk
            refine lv_ddiv hx hb dX7_meanSteps_121 hg19 ?_
            cases (show some _ = some _ from hk)
            exact we_d hx hb hr hlocks hP rfl hS dX7_meanSteps_122 (by decide) (by decide)
          · have hk := it_f cz18 hk
            refine lv_dconst0 hx hb dX7_meanSteps_113 ?_
            refine lv_goto (tgt := 122) hx hb dX7_meanSteps_114 (by decide) ?_
            cases (show some _ = some _ from hk)
            exact we_d hx hb hr hlocks hP rfl hS dX7_meanSteps_122 (by decide) (by decide)
        refine lv_if_ne (tgt := 102) hx hb dX7_meanSteps_95 (by decide) (fun cz20 => ?_) (fun cz20 => ?_)
        · have hk := it_f cz20 hk
          refine lv_iconst (v := (0 : Int32)) hx hb dX7_meanSteps_102 (by decide) ?_
          exact jn16 (0 : Int32) _ _ _ hk hP hS (lv_sub hl [0, 1, 2] rfl)
        · have hk := it_t cz20 hk
          refine lv_iconst (v := (2 : Int32)) hx hb dX7_meanSteps_98 (by decide) ?_
          refine lv_goto (tgt := 103) hx hb dX7_meanSteps_99 (by decide) ?_
          exact jn16 (2 : Int32) _ _ _ hk hP hS (lv_sub hl [0, 1, 2] rfl)
      have lp7 : ∀ (n : Nat) (v11 : Int32) (v12 : Int32) (v13 : Int32) (M14 : SS) (H : Heap) (locs : List Loc) (ls : Array Slot), f_X7_meanSteps_L33 p0 n v11 v12 v13 M14 k7 = some (Mz, r) → wP Z (X, M14, O) H → va_S (wA Z s.heap.size) s.heap H locs → lv_has ls 6 [(4, .int v11), (3, .int v12), (2, .int v13), (0, .ref (Z.2.2 26 0)), (1, .int p0)] → W p l e (headSpec ws_X7_meanSteps rm_X7_meanSteps).room s m args below meth c H locs 0 0 (vx_MQ below (cQd Z (X, Mz, O) (.inl r) s.heap.size) (cX Z (X, Mz, O) (.inl r : UInt64 ⊕ String) s.heap.size) args s 0 0 (wA Z s.heap.size)) (F0 m 33 ls []) := by
        intro n
        induction n with
        | zero =>
          intro v11 v12 v13 M14 H locs ls hk
          rw [f_X7_meanSteps_L33] at hk
          exact nomatch (show none = some _ from hk)
        | succ n ih =>
          intro v11 v12 v13 M14 H locs ls hk hP hS hl
          rw [f_X7_meanSteps_L33] at hk
          refine lv_iload hx hb dX7_meanSteps_33 (lv_at hl 0 rfl) ?_
          refine lv_aload_n hx hb dX7_meanSteps_35 rfl (lv_at hl 3 rfl) ?_
          refine gf_RX7_60 hx hb hts hown hK hP (by decide) dX7_meanSteps_36 ?_
          refine lv_aload_n hx hb dX7_meanSteps_39 rfl (lv_at hl 3 rfl) ?_
          refine gf_RX7_81 hx hb hts hown hK hP (by decide) dX7_meanSteps_40 ?_
          refine lv_iload_n hx hb dX7_meanSteps_43 rfl (lv_at hl 4 rfl) ?_
          obtain ⟨hg21, hk⟩ := gd_s hk
          refine wa_iaload_40 hx hb hK hP (by decide) hg21 dX7_meanSteps_44 ?_
          obtain ⟨hg22, hk⟩ := gd_s hk
          refine wa_iaload_33 hx hb hK hP (by decide) hg22 dX7_meanSteps_45 ?_
          refine lv_icmp_ge (tgt := 93) hx hb dX7_meanSteps_46 (by decide) (fun cz23 => ?_) (fun cz23 => ?_)
          · have hk := it_t cz23 hk
            exact ex7 v12 v13 M14 _ _ _ hk hP hS (lv_sub hl [1, 2, 3] rfl)
          · have hk := it_f cz23 hk
            refine lv_aload_n hx hb dX7_meanSteps_49 rfl (lv_at hl 3 rfl) ?_
            refine lv_iload_n hx hb dX7_meanSteps_50 rfl (lv_at hl 4 rfl) ?_
            refine lv_iload hx hb dX7_meanSteps_51 (lv_at hl 0 rfl) ?_
            obtain ⟨M25, v24, hf26, hk⟩ := b1_s hk
            refine wc_iV0 (rest := []) (As := [.int p0, .int v11]) ⟨hx, hb, hml, hown, hts⟩ (fun sz => k_X7_stepsOf l hfl Z hZ X M14 O p0 v11 M25 v24 hf26 sz) (cw_RX7_236 (args := args) (s := s) hts (Nat.le_of_ble_eq_true rfl) (Nat.le_of_ble_eq_true rfl)) hE hP hK hS (rv_26 hK hP (by decide)) rfl hl.1 rfl (Nat.le_of_ble_eq_true rfl) dX7_meanSteps_53 ⟨Nat.le_of_ble_eq_true rfl, Nat.le_of_ble_eq_true rfl⟩ (fun H locs hP hS => ?_)
            refine lv_istore (lv' := [(5, .int v24), (4, .int v11), (3, .int v12), (2, .int v13), (0, .ref (Z.2.2 26 0)), (1, .int p0)]) hx hb dX7_meanSteps_56 hl (by decide) rfl (fun ls hl => ?_)
            refine lv_iload_n hx hb dX7_meanSteps_58 rfl (lv_at hl 3 rfl) ?_
            refine lv_iload hx hb dX7_meanSteps_59 (lv_at hl 0 rfl) ?_
            refine lv_iconst (v := ((-1) : Int32)) hx hb dX7_meanSteps_61 (by decide) ?_
            have jn28 : ∀ (v27 : Int32) (H : Heap) (locs : List Loc) (ls : Array Slot), f_X7_meanSteps_J71 (f_X7_meanSteps_L33 p0 n) k7 v13 v24 v12 v11 M25 v27 = some (Mz, r) → wP Z (X, M25, O) H → va_S (wA Z s.heap.size) s.heap H locs → lv_has ls 6 [(5, .int v24), (4, .int v11), (3, .int v12), (0, .ref (Z.2.2 26 0)), (1, .int p0)] → W p l e (headSpec ws_X7_meanSteps rm_X7_meanSteps).room s m args below meth c H locs 0 0 (vx_MQ below (cQd Z (X, Mz, O) (.inl r) s.heap.size) (cX Z (X, Mz, O) (.inl r : UInt64 ⊕ String) s.heap.size) args s 0 0 (wA Z s.heap.size)) (F0 m 71 ls [.int v27, .int v13]) := by
              intro v27 H locs ls hk hP hS hl
              unfold f_X7_meanSteps_J71 at hk
              refine lv_iadd hx hb dX7_meanSteps_71 ?_
              obtain ⟨v29, ev29, hk⟩ := lq_s hk
              refine W.eq (g2 := F0 m 72 ls [.int v29]) (by rw [ev29]) ?_
              refine lv_istore_n (lv' := [(2, .int v29), (5, .int v24), (4, .int v11), (3, .int v12), (0, .ref (Z.2.2 26 0)), (1, .int p0)]) hx hb dX7_meanSteps_72 rfl hl (by decide) rfl (fun ls hl => ?_)
              refine lv_iload_n hx hb dX7_meanSteps_73 rfl (lv_at hl 3 rfl) ?_
              refine lv_iload hx hb dX7_meanSteps_74 (lv_at hl 1 rfl) ?_
              refine lv_iconst (v := ((-1) : Int32)) hx hb dX7_meanSteps_76 (by decide) ?_
              refine lv_icmp_ne (tgt := 84) hx hb dX7_meanSteps_77 (by decide) (fun cz30 => ?_) (fun cz30 => ?_)
              · have hk := it_f cz30 hk
                refine lv_iconst (v := (1 : Int32)) hx hb dX7_meanSteps_84 (by decide) ?_
                refine lv_iadd hx hb dX7_meanSteps_85 ?_
                obtain ⟨v31, ev31, hk⟩ := lq_s hk
                refine W.eq (g2 := F0 m 86 ls [.int v31]) (by rw [ev31]) ?_
                refine lv_istore_n (lv' := [(3, .int v31), (2, .int v29), (5, .int v24), (4, .int v11), (0, .ref (Z.2.2 26 0)), (1, .int p0)]) hx hb dX7_meanSteps_86 rfl hl (by decide) rfl (fun ls hl => ?_)
                refine lv_iinc (v := (v11 + (1 : Int32))) (lv' := [(4, .int (v11 + (1 : Int32))), (3, .int v31), (2, .int v29), (5, .int v24), (0, .ref (Z.2.2 26 0)), (1, .int p0)]) hx hb dX7_meanSteps_87 hl (k := 3) rfl rfl (by decide) rfl (fun ls hl => ?_)
                refine lv_goto (tgt := 33) hx hb dX7_meanSteps_90 (by decide) ?_
                exact ih (v11 + (1 : Int32)) v31 v29 M25 _ _ _ hk hP hS (lv_sub hl [0, 1, 2, 4, 5] rfl)
              · have hk := it_t cz30 hk
                refine lv_iconst (v := (0 : Int32)) hx hb dX7_meanSteps_80 (by decide) ?_
                refine lv_goto (tgt := 85) hx hb dX7_meanSteps_81 (by decide) ?_
                refine lv_iadd hx hb dX7_meanSteps_85 ?_
                obtain ⟨v32, ev32, hk⟩ := lq_s hk
                refine W.eq (g2 := F0 m 86 ls [.int v32]) (by rw [ev32]) ?_
                refine lv_istore_n (lv' := [(3, .int v32), (2, .int v29), (5, .int v24), (4, .int v11), (0, .ref (Z.2.2 26 0)), (1, .int p0)]) hx hb dX7_meanSteps_86 rfl hl (by decide) rfl (fun ls hl => ?_)
                refine lv_iinc (v := (v11 + (1 : Int32))) (lv' := [(4, .int (v11 + (1 : Int32))), (3, .int v32), (2, .int v29), (5, .int v24), (0, .ref (Z.2.2 26 0)), (1, .int p0)]) hx hb dX7_meanSteps_87 hl (k := 3) rfl rfl (by decide) rfl (fun ls hl => ?_)
                refine lv_goto (tgt := 33) hx hb dX7_meanSteps_90 (by decide) ?_
                exact ih (v11 + (1 : Int32)) v32 v29 M25 _ _ _ hk hP hS (lv_sub hl [0, 1, 2, 4, 5] rfl)
            refine lv_icmp_ne (tgt := 69) hx hb dX7_meanSteps_62 (by decide) (fun cz33 => ?_) (fun cz33 => ?_)
            · have hk := it_f cz33 hk
              refine lv_iload hx hb dX7_meanSteps_69 (lv_at hl 0 rfl) ?_
              exact jn28 v24 _ _ _ hk hP hS (lv_sub hl [0, 1, 2, 4, 5] rfl)
            · have hk := it_t cz33 hk
              refine lv_iconst (v := (0 : Int32)) hx hb dX7_meanSteps_65 (by decide) ?_
              refine lv_goto (tgt := 71) hx hb dX7_meanSteps_66 (by decide) ?_
              exact jn28 (0 : Int32) _ _ _ hk hP hS (lv_sub hl [0, 1, 2, 4, 5] rfl)
      exact lp7 1000 (0 : Int32) (0 : Int32) (0 : Int32) M5 _ _ _ hk hP hS (lv_sub hl [0, 1, 2, 3, 4] rfl)
    · have hk := it_f cz6 hk
      refine lv_dconst0 hx hb dX7_meanSteps_24 ?_
      cases (show some _ = some _ from hk)
      exact we_d hx hb hr hlocks hP rfl hS dX7_meanSteps_25 (by decide) (by decide)
  refine lv_if_eq (tgt := 13) hx hb dX7_meanSteps_6 (by decide) (fun cz34 => ?_) (fun cz34 => ?_)
  · have hk := it_t cz34 hk
    refine lv_iconst (v := (1 : Int32)) hx hb dX7_meanSteps_13 (by decide) ?_
    exact jn4 (1 : Int32) _ _ _ hk hP hS (lv_sub hl [0, 1] rfl)
  · have hk := it_f cz34 hk
    refine lv_iconst (v := (0 : Int32)) hx hb dX7_meanSteps_9 (by decide) ?_
    refine lv_goto (tgt := 14) hx hb dX7_meanSteps_10 (by decide) ?_
    exact jn4 (0 : Int32) _ _ _ hk hP hS (lv_sub hl [0, 1] rfl)
set_option maxHeartbeats 4000000 in
set_option maxRecDepth 100000 in
theorem k_X7_isSound (l : Launch) (hfl : l.stackTraces = false) (Z : ZT) (hZ : wD Z) (X M O : SS) (Mz : SS) (r : Int32) (hf : f_X7_isSound M = some (Mz, r)) (sz : Nat) : vx_Met l yX7_isSound ws_X7_isSound rm_X7_isSound (va_Pc [.ref (Z.2.2 26 0)] (cP Z (X, M, O) sz)) (cQi Z (X, Mz, O) (.inl r) sz) (cX Z (X, Mz, O) (.inl r : Int32 ⊕ String) sz) 0 0 (wA Z sz) := by
  refine vx_ofW (cc := cX7_isSound) (maxL := 1) (ret := (some .boolean)) (by decide) rfl ?_
  intro p e s m args below meth c s₁ B hml htab hv
  obtain ⟨hargs, hsz, hE, hP, hK⟩ := hv
  have hx := B.exec
  have hb := B.bytes
  have hr := B.returns
  have hts0 := atoms_spec (ws := ws_X7_isSound) B.pre
  have hts : ∀ w ∈ lw_all, w.before args s = true := fun w h => hts0 w (List.mem_cons_of_mem _ h)
  have hown : s.vm.findClass RX7 = some m.cls := findClass_of_methodNamed B.named
  have hlocks := B.notSynchronized
  have hout9 : ∀ (pc9 : Nat), ∀ x ∈ c.exceptionTable.toList, covers x pc9 = false := fun _ x hx9 => (htab x hx9).elim
  subst hsz
  have hS : va_S (wA Z s.heap.size) s.heap s.heap [] := va_S.rf
  have hl := lv_entry ([.ref (Z.2.2 26 0)]) (n := 1) (Nat.le_of_ble_eq_true rfl)
  have hen : entryFrame m args 1 = entryFrame m ([.ref (Z.2.2 26 0)] : List Value).toArray 1 := by rw [hargs]
  rw [hen, lg_entry_eq]
  generalize (lg_sl ([.ref (Z.2.2 26 0)]) ++ List.replicate (1 - (lg_sl ([.ref (Z.2.2 26 0)])).length) Slot.unset).toArray = ls at hl ⊢
  have hl : lv_has ls 1 [(0, .ref (Z.2.2 26 0))] := hl
  have hk := hf
  unfold f_X7_isSound at hk
  refine lv_aload_n hx hb dX7_isSound_0 rfl (lv_at hl 0 rfl) ?_
  refine lv_iconst (v := (0 : Int32)) hx hb dX7_isSound_1 (by decide) ?_
  obtain ⟨M1, eM1, hk⟩ := lq_s hk
  refine pf_RX7_37 hx hb hts hown hZ hK hP hS (by decide) dX7_isSound_2 (fun H locs hP hS => ?_)
  rw [← eM1] at hP
  refine lv_iconst (v := (1 : Int32)) hx hb dX7_isSound_5 (by decide) ?_
  cases (show some _ = some _ from hk)
  exact we_z hx hb hr hlocks (show okz (1 : Int32) by unfold okz; decide).1 hP rfl hS dX7_isSound_6 (by decide) (by decide)
set_option maxHeartbeats 4000000 in
set_option maxRecDepth 100000 in
theorem k_L_step (l : Launch) (hfl : l.stackTraces = false) (Z : ZT) (hZ : wD Z) (X M O : SS) (p1 : Int32) (p2 : Int32) (Xz : SS) (Oz : SS) (r : Int32) (hf : f_L_step X O p1 p2 = some (Xz, Oz, r)) (sz : Nat) : vx_Met l yL_step ws_L_step rm_L_step (va_Pc [.ref (Z.2.2 0 0), .int p1, .int p2, .ref (Z.2.2 56 0)] (cP Z (X, M, O) sz)) (cQi Z (Xz, M, Oz) (.inl r) sz) (cX Z (Xz, M, Oz) (.inl r : Int32 ⊕ String) sz) 1 6 (wA Z sz) := by
  refine vx_ofWH (cc := cL_step) (maxL := 5) (ret := (some .int)) (hh := [(0, 10, 13, 13), (0, 10, 17, 15)]) (by decide) rfl ?_
  intro p e s m args below meth c s₁ B hml hv
  obtain ⟨hargs, hsz, hE, hP, hK⟩ := hv
  have hx := B.exec
  have hb := B.bytes
  have hr := B.returns
  have hts0 := atoms_spec (ws := ws_L_step) B.pre
  have hts : ∀ w ∈ lw_all, w.before args s = true := fun w h => hts0 w (List.mem_cons_of_mem _ h)
  have hown : s.vm.findClass RL = some m.cls := findClass_of_methodNamed B.named
  have hlocks := B.notSynchronized
  have htab := vx_table (x := yL_step) B (hts0 (.codeWith yL_step cL_step 5 (some .int) [(0, 10, 13, 13), (0, 10, 17, 15)]) List.mem_cons_self)
  subst hsz
  have hS : va_S (wA Z s.heap.size) s.heap s.heap [] := va_S.rf
  have hl := lv_entry ([.ref (Z.2.2 0 0), .int p1, .int p2, .ref (Z.2.2 56 0)]) (n := 5) (Nat.le_of_ble_eq_true rfl)
  have hen : entryFrame m args 5 = entryFrame m ([.ref (Z.2.2 0 0), .int p1, .int p2, .ref (Z.2.2 56 0)] : List Value).toArray 5 := by rw [hargs]
  rw [hen, lg_entry_eq]
  generalize (lg_sl ([.ref (Z.2.2 0 0), .int p1, .int p2, .ref (Z.2.2 56 0)]) ++ List.replicate (5 - (lg_sl ([.ref (Z.2.2 0 0), .int p1, .int p2, .ref (Z.2.2 56 0)])).length) Slot.unset).toArray = ls at hl ⊢
  have hl : lv_has ls 5 [(0, .ref (Z.2.2 0 0)), (1, .int p1), (2, .int p2), (3, .ref (Z.2.2 56 0))] := hl
  have hk := hf
  unfold f_L_step at hk
  refine lv_aload_n hx hb dL_step_0 rfl (lv_at hl 3 rfl) ?_
  refine lv_iconst (v := (0 : Int32)) hx hb dL_step_1 (by decide) ?_
  refine lv_aload_n hx hb dL_step_2 rfl (lv_at hl 0 rfl) ?_
  refine lv_iload_n hx hb dL_step_3 rfl (lv_at hl 1 rfl) ?_
  refine lv_iload_n hx hb dL_step_4 rfl (lv_at hl 2 rfl) ?_
  obtain ⟨X2, o4, hf3, hn6, he7⟩ := e1_s hk
  refine wc_iV (rest := [.int (0 : Int32), .ref (Z.2.2 56 0)]) (As := [.int p1, .int p2]) ⟨hx, hb, hml, hown, hts⟩ (fun sz => k_X6_step l hfl Z hZ X M O p1 p2 X2 o4 hf3 sz) (cw_RL_7 (args := args) (s := s) hts (Nat.le_of_ble_eq_true rfl) (Nat.le_of_ble_eq_true rfl)) hE hP hK hS (rv_0 hK hP (by decide)) rfl hl.1 rfl (Nat.le_of_ble_eq_true rfl) dL_step_5 ⟨Nat.le_of_ble_eq_true rfl, Nat.le_of_ble_eq_true rfl⟩ (fun E5 ce9 q9 H locs hoE hP hS hc9 hv9 hcl9 => ?_) (fun v1 H locs ho hP hS => ?_)
  · have hk := he7 _ hoE
    by_cases cz8 : E5 = "java/lang/IllegalArgumentException"
    · have hk := it_t cz8 hk
      subst cz8
      refine vx_catch hown [] ⟨0, 10, 13, 13⟩ [⟨0, 10, 17, 15⟩] (htab.trans rfl) (fun z hz => nomatch hz) (by decide) (by decide) (hts _ q536) (EV.cast hE (by decide +kernel)) hc9 hv9 hcl9 ?_
      refine lv_astore (lv' := [(4, .ref q9), (0, .ref (Z.2.2 0 0)), (1, .int p1), (2, .int p2), (3, .ref (Z.2.2 56 0))]) hx hb dL_step_13 hl (by decide) rfl (fun ls hl => ?_)
      refine lv_iconst (v := (1 : Int32)) hx hb dL_step_15 (by decide) ?_
      cases (show some _ = some _ from hk)
      exact we_i hx hb hr hlocks hP rfl hS dL_step_16 (by decide) (by decide)
    have hk := it_f cz8 hk
    by_cases cz9 : E5 = "java/lang/IllegalStateException"
    · have hk := it_t cz9 hk
      subst cz9
      refine vx_catch hown [⟨0, 10, 13, 13⟩] ⟨0, 10, 17, 15⟩ [] (htab.trans rfl) (by intro z hz; simp only [List.mem_cons, List.not_mem_nil, or_false] at hz; rcases hz with rfl <;> first | exact Or.inr ⟨by decide, "java/lang/IllegalArgumentException", hts _ q536, EV.nc hE (by decide +kernel)⟩) (by decide) (by decide) (hts _ q537) (EV.cast hE (by decide +kernel)) hc9 hv9 hcl9 ?_
      refine lv_astore (lv' := [(4, .ref q9), (0, .ref (Z.2.2 0 0)), (1, .int p1), (2, .int p2), (3, .ref (Z.2.2 56 0))]) hx hb dL_step_17 hl (by decide) rfl (fun ls hl => ?_)
      refine lv_iconst (v := (2 : Int32)) hx hb dL_step_19 (by decide) ?_
      cases (show some _ = some _ from hk)
      exact we_i hx hb hr hlocks hP rfl hS dL_step_20 (by decide) (by decide)
    have hk := it_f cz9 hk
    exact nomatch (show none = some _ from hk)
  have hk := hn6 _ ho
  refine lv_i2l (v := (v1).toInt64) hx hb dL_step_8 rfl ?_
  obtain ⟨O10, eO10, hk⟩ := lq_s hk
  refine wa_lastore_56 hx hb hZ hK hP hS (by decide) (by unfold vp_in; decide) dL_step_9 (fun H locs hP hS => ?_)
  rw [← eO10] at hP
  refine lv_goto (tgt := 21) hx hb dL_step_10 (by decide) ?_
  refine lv_iconst (v := (0 : Int32)) hx hb dL_step_21 (by decide) ?_
  cases (show some _ = some _ from hk)
  exact we_i hx hb hr hlocks hP rfl hS dL_step_22 (by decide) (by decide)
set_option maxHeartbeats 4000000 in
set_option maxRecDepth 100000 in
theorem k_L_number (l : Launch) (hfl : l.stackTraces = false) (Z : ZT) (hZ : wD Z) (X M O : SS) (p1 : Int32) (p2 : Int32) (Xz : SS) (Oz : SS) (r : Int32) (hf : f_L_number X O p1 p2 = some (Xz, Oz, r)) (sz : Nat) : vx_Met l yL_number ws_L_number rm_L_number (va_Pc [.ref (Z.2.2 0 0), .int p1, .int p2, .ref (Z.2.2 56 0)] (cP Z (X, M, O) sz)) (cQi Z (Xz, M, Oz) (.inl r) sz) (cX Z (Xz, M, Oz) (.inl r : Int32 ⊕ String) sz) 1 6 (wA Z sz) := by
  refine vx_ofWH (cc := cL_number) (maxL := 5) (ret := (some .int)) (hh := [(0, 10, 13, 13), (0, 10, 17, 15)]) (by decide) rfl ?_
  intro p e s m args below meth c s₁ B hml hv
  obtain ⟨hargs, hsz, hE, hP, hK⟩ := hv
  have hx := B.exec
  have hb := B.bytes
  have hr := B.returns
  have hts0 := atoms_spec (ws := ws_L_number) B.pre
  have hts : ∀ w ∈ lw_all, w.before args s = true := fun w h => hts0 w (List.mem_cons_of_mem _ h)
  have hown : s.vm.findClass RL = some m.cls := findClass_of_methodNamed B.named
  have hlocks := B.notSynchronized
  have htab := vx_table (x := yL_number) B (hts0 (.codeWith yL_number cL_number 5 (some .int) [(0, 10, 13, 13), (0, 10, 17, 15)]) List.mem_cons_self)
  subst hsz
  have hS : va_S (wA Z s.heap.size) s.heap s.heap [] := va_S.rf
  have hl := lv_entry ([.ref (Z.2.2 0 0), .int p1, .int p2, .ref (Z.2.2 56 0)]) (n := 5) (Nat.le_of_ble_eq_true rfl)
  have hen : entryFrame m args 5 = entryFrame m ([.ref (Z.2.2 0 0), .int p1, .int p2, .ref (Z.2.2 56 0)] : List Value).toArray 5 := by rw [hargs]
  rw [hen, lg_entry_eq]
  generalize (lg_sl ([.ref (Z.2.2 0 0), .int p1, .int p2, .ref (Z.2.2 56 0)]) ++ List.replicate (5 - (lg_sl ([.ref (Z.2.2 0 0), .int p1, .int p2, .ref (Z.2.2 56 0)])).length) Slot.unset).toArray = ls at hl ⊢
  have hl : lv_has ls 5 [(0, .ref (Z.2.2 0 0)), (1, .int p1), (2, .int p2), (3, .ref (Z.2.2 56 0))] := hl
  have hk := hf
  unfold f_L_number at hk
  refine lv_aload_n hx hb dL_number_0 rfl (lv_at hl 3 rfl) ?_
  refine lv_iconst (v := (0 : Int32)) hx hb dL_number_1 (by decide) ?_
  refine lv_aload_n hx hb dL_number_2 rfl (lv_at hl 0 rfl) ?_
  refine lv_iload_n hx hb dL_number_3 rfl (lv_at hl 1 rfl) ?_
  refine lv_iload_n hx hb dL_number_4 rfl (lv_at hl 2 rfl) ?_
  obtain ⟨X2, o4, hf3, hn6, he7⟩ := e1_s hk
  refine wc_iV (rest := [.int (0 : Int32), .ref (Z.2.2 56 0)]) (As := [.int p1, .int p2]) ⟨hx, hb, hml, hown, hts⟩ (fun sz => k_X6_number l hfl Z hZ X M O p1 p2 X2 o4 hf3 sz) (cw_RL_17 (args := args) (s := s) hts (Nat.le_of_ble_eq_true rfl) (Nat.le_of_ble_eq_true rfl)) hE hP hK hS (rv_0 hK hP (by decide)) rfl hl.1 rfl (Nat.le_of_ble_eq_true rfl) dL_number_5 ⟨Nat.le_of_ble_eq_true rfl, Nat.le_of_ble_eq_true rfl⟩ (fun E5 ce9 q9 H locs hoE hP hS hc9 hv9 hcl9 => ?_) (fun v1 H locs ho hP hS => ?_)
  · have hk := he7 _ hoE
    by_cases cz8 : E5 = "java/lang/IllegalArgumentException"
    · have hk := it_t cz8 hk
      subst cz8
      refine vx_catch hown [] ⟨0, 10, 13, 13⟩ [⟨0, 10, 17, 15⟩] (htab.trans rfl) (fun z hz => nomatch hz) (by decide) (by decide) (hts _ q536) (EV.cast hE (by decide +kernel)) hc9 hv9 hcl9 ?_
      refine lv_astore (lv' := [(4, .ref q9), (0, .ref (Z.2.2 0 0)), (1, .int p1), (2, .int p2), (3, .ref (Z.2.2 56 0))]) hx hb dL_number_13 hl (by decide) rfl (fun ls hl => ?_)
      refine lv_iconst (v := (1 : Int32)) hx hb dL_number_15 (by decide) ?_
      cases (show some _ = some _ from hk)
      exact we_i hx hb hr hlocks hP rfl hS dL_number_16 (by decide) (by decide)
    have hk := it_f cz8 hk
    by_cases cz9 : E5 = "java/lang/IllegalStateException"
    · have hk := it_t cz9 hk
      subst cz9
      refine vx_catch hown [⟨0, 10, 13, 13⟩] ⟨0, 10, 17, 15⟩ [] (htab.trans rfl) (by intro z hz; simp only [List.mem_cons, List.not_mem_nil, or_false] at hz; rcases hz with rfl <;> first | exact Or.inr ⟨by decide, "java/lang/IllegalArgumentException", hts _ q536, EV.nc hE (by decide +kernel)⟩) (by decide) (by decide) (hts _ q537) (EV.cast hE (by decide +kernel)) hc9 hv9 hcl9 ?_
      refine lv_astore (lv' := [(4, .ref q9), (0, .ref (Z.2.2 0 0)), (1, .int p1), (2, .int p2), (3, .ref (Z.2.2 56 0))]) hx hb dL_number_17 hl (by decide) rfl (fun ls hl => ?_)
      refine lv_iconst (v := (2 : Int32)) hx hb dL_number_19 (by decide) ?_
      cases (show some _ = some _ from hk)
      exact we_i hx hb hr hlocks hP rfl hS dL_number_20 (by decide) (by decide)
    have hk := it_f cz9 hk
    exact nomatch (show none = some _ from hk)
  have hk := hn6 _ ho
  refine lv_i2l (v := (v1).toInt64) hx hb dL_number_8 rfl ?_
  obtain ⟨O10, eO10, hk⟩ := lq_s hk
  refine wa_lastore_56 hx hb hZ hK hP hS (by decide) (by unfold vp_in; decide) dL_number_9 (fun H locs hP hS => ?_)
  rw [← eO10] at hP
  refine lv_goto (tgt := 21) hx hb dL_number_10 (by decide) ?_
  refine lv_iconst (v := (0 : Int32)) hx hb dL_number_21 (by decide) ?_
  cases (show some _ = some _ from hk)
  exact we_i hx hb hr hlocks hP rfl hS dL_number_22 (by decide) (by decide)
set_option maxHeartbeats 4000000 in
set_option maxRecDepth 100000 in
theorem k_L_kata (l : Launch) (hfl : l.stackTraces = false) (Z : ZT) (hZ : wD Z) (X M O : SS) (p1 : Int32) (Xz : SS) (Oz : SS) (r : Int32) (hf : f_L_kata X O p1 = some (Xz, Oz, r)) (sz : Nat) : vx_Met l yL_kata ws_L_kata rm_L_kata (va_Pc [.ref (Z.2.2 0 0), .int p1, .ref (Z.2.2 56 0)] (cP Z (X, M, O) sz)) (cQi Z (Xz, M, Oz) (.inl r) sz) (cX Z (Xz, M, Oz) (.inl r : Int32 ⊕ String) sz) 1 6 (wA Z sz) := by
  refine vx_ofWH (cc := cL_kata) (maxL := 4) (ret := (some .int)) (hh := [(0, 9, 12, 13), (0, 9, 15, 15)]) (by decide) rfl ?_
  intro p e s m args below meth c s₁ B hml hv
  obtain ⟨hargs, hsz, hE, hP, hK⟩ := hv
  have hx := B.exec
  have hb := B.bytes
  have hr := B.returns
  have hts0 := atoms_spec (ws := ws_L_kata) B.pre
  have hts : ∀ w ∈ lw_all, w.before args s = true := fun w h => hts0 w (List.mem_cons_of_mem _ h)
  have hown : s.vm.findClass RL = some m.cls := findClass_of_methodNamed B.named
  have hlocks := B.notSynchronized
  have htab := vx_table (x := yL_kata) B (hts0 (.codeWith yL_kata cL_kata 4 (some .int) [(0, 9, 12, 13), (0, 9, 15, 15)]) List.mem_cons_self)
  subst hsz
  have hS : va_S (wA Z s.heap.size) s.heap s.heap [] := va_S.rf
  have hl := lv_entry ([.ref (Z.2.2 0 0), .int p1, .ref (Z.2.2 56 0)]) (n := 4) (Nat.le_of_ble_eq_true rfl)
  have hen : entryFrame m args 4 = entryFrame m ([.ref (Z.2.2 0 0), .int p1, .ref (Z.2.2 56 0)] : List Value).toArray 4 := by rw [hargs]
  rw [hen, lg_entry_eq]
  generalize (lg_sl ([.ref (Z.2.2 0 0), .int p1, .ref (Z.2.2 56 0)]) ++ List.replicate (4 - (lg_sl ([.ref (Z.2.2 0 0), .int p1, .ref (Z.2.2 56 0)])).length) Slot.unset).toArray = ls at hl ⊢
  have hl : lv_has ls 4 [(0, .ref (Z.2.2 0 0)), (1, .int p1), (2, .ref (Z.2.2 56 0))] := hl
  have hk := hf
  unfold f_L_kata at hk
  refine lv_aload_n hx hb dL_kata_0 rfl (lv_at hl 2 rfl) ?_
  refine lv_iconst (v := (0 : Int32)) hx hb dL_kata_1 (by decide) ?_
  refine lv_aload_n hx hb dL_kata_2 rfl (lv_at hl 0 rfl) ?_
  refine lv_iload_n hx hb dL_kata_3 rfl (lv_at hl 1 rfl) ?_
  obtain ⟨X2, o4, hf3, hn6, he7⟩ := e1_s hk
  refine wc_iV (rest := [.int (0 : Int32), .ref (Z.2.2 56 0)]) (As := [.int p1]) ⟨hx, hb, hml, hown, hts⟩ (fun sz => k_X6_kata l hfl Z hZ X M O p1 X2 o4 hf3 sz) (cw_RL_21 (args := args) (s := s) hts (Nat.le_of_ble_eq_true rfl) (Nat.le_of_ble_eq_true rfl)) hE hP hK hS (rv_0 hK hP (by decide)) rfl hl.1 rfl (Nat.le_of_ble_eq_true rfl) dL_kata_4 ⟨Nat.le_of_ble_eq_true rfl, Nat.le_of_ble_eq_true rfl⟩ (fun E5 ce9 q9 H locs hoE hP hS hc9 hv9 hcl9 => ?_) (fun v1 H locs ho hP hS => ?_)
  · have hk := he7 _ hoE
    by_cases cz8 : E5 = "java/lang/IllegalArgumentException"
    · have hk := it_t cz8 hk
      subst cz8
      refine vx_catch hown [] ⟨0, 9, 12, 13⟩ [⟨0, 9, 15, 15⟩] (htab.trans rfl) (fun z hz => nomatch hz) (by decide) (by decide) (hts _ q536) (EV.cast hE (by decide +kernel)) hc9 hv9 hcl9 ?_
      refine lv_astore_n (lv' := [(3, .ref q9), (0, .ref (Z.2.2 0 0)), (1, .int p1), (2, .ref (Z.2.2 56 0))]) hx hb dL_kata_12 rfl hl (by decide) rfl (fun ls hl => ?_)
      refine lv_iconst (v := (1 : Int32)) hx hb dL_kata_13 (by decide) ?_
      cases (show some _ = some _ from hk)
      exact we_i hx hb hr hlocks hP rfl hS dL_kata_14 (by decide) (by decide)
    have hk := it_f cz8 hk
    by_cases cz9 : E5 = "java/lang/IllegalStateException"
    · have hk := it_t cz9 hk
      subst cz9
      refine vx_catch hown [⟨0, 9, 12, 13⟩] ⟨0, 9, 15, 15⟩ [] (htab.trans rfl) (by intro z hz; simp only [List.mem_cons, List.not_mem_nil, or_false] at hz; rcases hz with rfl <;> first | exact Or.inr ⟨by decide, "java/lang/IllegalArgumentException", hts _ q536, EV.nc hE (by decide +kernel)⟩) (by decide) (by decide) (hts _ q537) (EV.cast hE (by decide +kernel)) hc9 hv9 hcl9 ?_
      refine lv_astore_n (lv' := [(3, .ref q9), (0, .ref (Z.2.2 0 0)), (1, .int p1), (2, .ref (Z.2.2 56 0))]) hx hb dL_kata_15 rfl hl (by decide) rfl (fun ls hl => ?_)
      refine lv_iconst (v := (2 : Int32)) hx hb dL_kata_16 (by decide) ?_
      cases (show some _ = some _ from hk)
      exact we_i hx hb hr hlocks hP rfl hS dL_kata_17 (by decide) (by decide)
    have hk := it_f cz9 hk
    exact nomatch (show none = some _ from hk)
  have hk := hn6 _ ho
  refine lv_i2l (v := (v1).toInt64) hx hb dL_kata_7 rfl ?_
  obtain ⟨O10, eO10, hk⟩ := lq_s hk
  refine wa_lastore_56 hx hb hZ hK hP hS (by decide) (by unfold vp_in; decide) dL_kata_8 (fun H locs hP hS => ?_)
  rw [← eO10] at hP
  refine lv_goto (tgt := 18) hx hb dL_kata_9 (by decide) ?_
  refine lv_iconst (v := (0 : Int32)) hx hb dL_kata_18 (by decide) ?_
  cases (show some _ = some _ from hk)
  exact we_i hx hb hr hlocks hP rfl hS dL_kata_19 (by decide) (by decide)
set_option maxHeartbeats 4000000 in
set_option maxRecDepth 100000 in
theorem k_L_test (l : Launch) (hfl : l.stackTraces = false) (Z : ZT) (hZ : wD Z) (X M O : SS) (p1 : Int32) (Xz : SS) (Oz : SS) (r : Int32) (hf : f_L_test X O p1 = some (Xz, Oz, r)) (sz : Nat) : vx_Met l yL_test ws_L_test rm_L_test (va_Pc [.ref (Z.2.2 0 0), .int p1, .ref (Z.2.2 56 0)] (cP Z (X, M, O) sz)) (cQi Z (Xz, M, Oz) (.inl r) sz) (cX Z (Xz, M, Oz) (.inl r : Int32 ⊕ String) sz) 2 12 (wA Z sz) := by
  refine vx_ofWH (cc := cL_test) (maxL := 4) (ret := (some .int)) (hh := [(0, 9, 12, 28), (0, 9, 15, 15)]) (by decide) rfl ?_
  intro p e s m args below meth c s₁ B hml hv
  obtain ⟨hargs, hsz, hE, hP, hK⟩ := hv
  have hx := B.exec
  have hb := B.bytes
  have hr := B.returns
  have hts0 := atoms_spec (ws := ws_L_test) B.pre
  have hts : ∀ w ∈ lw_all, w.before args s = true := fun w h => hts0 w (List.mem_cons_of_mem _ h)
  have hown : s.vm.findClass RL = some m.cls := findClass_of_methodNamed B.named
  have hlocks := B.notSynchronized
  have htab := vx_table (x := yL_test) B (hts0 (.codeWith yL_test cL_test 4 (some .int) [(0, 9, 12, 28), (0, 9, 15, 15)]) List.mem_cons_self)
  subst hsz
  have hS : va_S (wA Z s.heap.size) s.heap s.heap [] := va_S.rf
  have hl := lv_entry ([.ref (Z.2.2 0 0), .int p1, .ref (Z.2.2 56 0)]) (n := 4) (Nat.le_of_ble_eq_true rfl)
  have hen : entryFrame m args 4 = entryFrame m ([.ref (Z.2.2 0 0), .int p1, .ref (Z.2.2 56 0)] : List Value).toArray 4 := by rw [hargs]
  rw [hen, lg_entry_eq]
  generalize (lg_sl ([.ref (Z.2.2 0 0), .int p1, .ref (Z.2.2 56 0)]) ++ List.replicate (4 - (lg_sl ([.ref (Z.2.2 0 0), .int p1, .ref (Z.2.2 56 0)])).length) Slot.unset).toArray = ls at hl ⊢
  have hl : lv_has ls 4 [(0, .ref (Z.2.2 0 0)), (1, .int p1), (2, .ref (Z.2.2 56 0))] := hl
  have hk := hf
  unfold f_L_test at hk
  refine lv_aload_n hx hb dL_test_0 rfl (lv_at hl 2 rfl) ?_
  refine lv_iconst (v := (0 : Int32)) hx hb dL_test_1 (by decide) ?_
  refine lv_aload_n hx hb dL_test_2 rfl (lv_at hl 0 rfl) ?_
  refine lv_iload_n hx hb dL_test_3 rfl (lv_at hl 1 rfl) ?_
  obtain ⟨X2, o4, hf3, hn6, he7⟩ := e1_s hk
  refine wc_iV (rest := [.int (0 : Int32), .ref (Z.2.2 56 0)]) (As := [.int p1]) ⟨hx, hb, hml, hown, hts⟩ (fun sz => k_X6_test l hfl Z hZ X M O p1 X2 o4 hf3 sz) (cw_RL_25 (args := args) (s := s) hts (Nat.le_of_ble_eq_true rfl) (Nat.le_of_ble_eq_true rfl)) hE hP hK hS (rv_0 hK hP (by decide)) rfl hl.1 rfl (Nat.le_of_ble_eq_true rfl) dL_test_4 ⟨Nat.le_of_ble_eq_true rfl, Nat.le_of_ble_eq_true rfl⟩ (fun E5 ce9 q9 H locs hoE hP hS hc9 hv9 hcl9 => ?_) (fun v1 H locs ho hP hS => ?_)
  · have hk := he7 _ hoE
    by_cases cz8 : E5 = "java/lang/IndexOutOfBoundsException"
    · have hk := it_t cz8 hk
      subst cz8
      refine vx_catch hown [] ⟨0, 9, 12, 28⟩ [⟨0, 9, 15, 15⟩] (htab.trans rfl) (fun z hz => nomatch hz) (by decide) (by decide) (hts _ q753) (EV.cast hE (by decide +kernel)) hc9 hv9 hcl9 ?_
      refine lv_astore_n (lv' := [(3, .ref q9), (0, .ref (Z.2.2 0 0)), (1, .int p1), (2, .ref (Z.2.2 56 0))]) hx hb dL_test_12 rfl hl (by decide) rfl (fun ls hl => ?_)
      refine lv_iconst (v := (1 : Int32)) hx hb dL_test_13 (by decide) ?_
      cases (show some _ = some _ from hk)
      exact we_i hx hb hr hlocks hP rfl hS dL_test_14 (by decide) (by decide)
    have hk := it_f cz8 hk
    by_cases cz9 : E5 = "java/lang/IllegalStateException"
    · have hk := it_t cz9 hk
      subst cz9
      refine vx_catch hown [⟨0, 9, 12, 28⟩] ⟨0, 9, 15, 15⟩ [] (htab.trans rfl) (by intro z hz; simp only [List.mem_cons, List.not_mem_nil, or_false] at hz; rcases hz with rfl <;> first | exact Or.inr ⟨by decide, "java/lang/IndexOutOfBoundsException", hts _ q753, EV.nc hE (by decide +kernel)⟩) (by decide) (by decide) (hts _ q537) (EV.cast hE (by decide +kernel)) hc9 hv9 hcl9 ?_
      refine lv_astore_n (lv' := [(3, .ref q9), (0, .ref (Z.2.2 0 0)), (1, .int p1), (2, .ref (Z.2.2 56 0))]) hx hb dL_test_15 rfl hl (by decide) rfl (fun ls hl => ?_)
      refine lv_iconst (v := (2 : Int32)) hx hb dL_test_16 (by decide) ?_
      cases (show some _ = some _ from hk)
      exact we_i hx hb hr hlocks hP rfl hS dL_test_17 (by decide) (by decide)
    have hk := it_f cz9 hk
    exact nomatch (show none = some _ from hk)
  have hk := hn6 _ ho
  refine lv_i2l (v := (v1).toInt64) hx hb dL_test_7 rfl ?_
  obtain ⟨O10, eO10, hk⟩ := lq_s hk
  refine wa_lastore_56 hx hb hZ hK hP hS (by decide) (by unfold vp_in; decide) dL_test_8 (fun H locs hP hS => ?_)
  rw [← eO10] at hP
  refine lv_goto (tgt := 18) hx hb dL_test_9 (by decide) ?_
  refine lv_iconst (v := (0 : Int32)) hx hb dL_test_18 (by decide) ?_
  cases (show some _ = some _ from hk)
  exact we_i hx hb hr hlocks hP rfl hS dL_test_19 (by decide) (by decide)
set_option maxHeartbeats 4000000 in
set_option maxRecDepth 100000 in
theorem k_L_fix (l : Launch) (hfl : l.stackTraces = false) (Z : ZT) (hZ : wD Z) (X M O : SS) (p1 : Int32) (p2 : Int32) (Xz : SS) (Oz : SS) (r : Int32) (hf : f_L_fix X O p1 p2 = some (Xz, Oz, r)) (sz : Nat) : vx_Met l yL_fix ws_L_fix rm_L_fix (va_Pc [.ref (Z.2.2 0 0), .int p1, .int p2, .ref (Z.2.2 56 0)] (cP Z (X, M, O) sz)) (cQi Z (Xz, M, Oz) (.inl r) sz) (cX Z (Xz, M, Oz) (.inl r : Int32 ⊕ String) sz) 2 12 (wA Z sz) := by
  refine vx_ofWH (cc := cL_fix) (maxL := 5) (ret := (some .int)) (hh := [(0, 10, 13, 28)]) (by decide) rfl ?_
  intro p e s m args below meth c s₁ B hml hv
  obtain ⟨hargs, hsz, hE, hP, hK⟩ := hv
  have hx := B.exec
  have hb := B.bytes
  have hr := B.returns
  have hts0 := atoms_spec (ws := ws_L_fix) B.pre
  have hts : ∀ w ∈ lw_all, w.before args s = true := fun w h => hts0 w (List.mem_cons_of_mem _ h)
  have hown : s.vm.findClass RL = some m.cls := findClass_of_methodNamed B.named
  have hlocks := B.notSynchronized
  have htab := vx_table (x := yL_fix) B (hts0 (.codeWith yL_fix cL_fix 5 (some .int) [(0, 10, 13, 28)]) List.mem_cons_self)
  subst hsz
  have hS : va_S (wA Z s.heap.size) s.heap s.heap [] := va_S.rf
  have hl := lv_entry ([.ref (Z.2.2 0 0), .int p1, .int p2, .ref (Z.2.2 56 0)]) (n := 5) (Nat.le_of_ble_eq_true rfl)
  have hen : entryFrame m args 5 = entryFrame m ([.ref (Z.2.2 0 0), .int p1, .int p2, .ref (Z.2.2 56 0)] : List Value).toArray 5 := by rw [hargs]
  rw [hen, lg_entry_eq]
  generalize (lg_sl ([.ref (Z.2.2 0 0), .int p1, .int p2, .ref (Z.2.2 56 0)]) ++ List.replicate (5 - (lg_sl ([.ref (Z.2.2 0 0), .int p1, .int p2, .ref (Z.2.2 56 0)])).length) Slot.unset).toArray = ls at hl ⊢
  have hl : lv_has ls 5 [(0, .ref (Z.2.2 0 0)), (1, .int p1), (2, .int p2), (3, .ref (Z.2.2 56 0))] := hl
  have hk := hf
  unfold f_L_fix at hk
  refine lv_aload_n hx hb dL_fix_0 rfl (lv_at hl 3 rfl) ?_
  refine lv_iconst (v := (0 : Int32)) hx hb dL_fix_1 (by decide) ?_
  refine lv_aload_n hx hb dL_fix_2 rfl (lv_at hl 0 rfl) ?_
  refine lv_iload_n hx hb dL_fix_3 rfl (lv_at hl 1 rfl) ?_
  refine lv_iload_n hx hb dL_fix_4 rfl (lv_at hl 2 rfl) ?_
  obtain ⟨X2, o4, hf3, hn6, he7⟩ := e1_s hk
  refine wc_iV (rest := [.int (0 : Int32), .ref (Z.2.2 56 0)]) (As := [.int p1, .int p2]) ⟨hx, hb, hml, hown, hts⟩ (fun sz => k_X6_fix l hfl Z hZ X M O p1 p2 X2 o4 hf3 sz) (cw_RL_30 (args := args) (s := s) hts (Nat.le_of_ble_eq_true rfl) (Nat.le_of_ble_eq_true rfl)) hE hP hK hS (rv_0 hK hP (by decide)) rfl hl.1 rfl (Nat.le_of_ble_eq_true rfl) dL_fix_5 ⟨Nat.le_of_ble_eq_true rfl, Nat.le_of_ble_eq_true rfl⟩ (fun E5 ce9 q9 H locs hoE hP hS hc9 hv9 hcl9 => ?_) (fun v1 H locs ho hP hS => ?_)
  · have hk := he7 _ hoE
    by_cases cz8 : E5 = "java/lang/IndexOutOfBoundsException"
    · have hk := it_t cz8 hk
      subst cz8
      refine vx_catch hown [] ⟨0, 10, 13, 28⟩ [] (htab.trans rfl) (fun z hz => nomatch hz) (by decide) (by decide) (hts _ q753) (EV.cast hE (by decide +kernel)) hc9 hv9 hcl9 ?_
      refine lv_astore (lv' := [(4, .ref q9), (0, .ref (Z.2.2 0 0)), (1, .int p1), (2, .int p2), (3, .ref (Z.2.2 56 0))]) hx hb dL_fix_13 hl (by decide) rfl (fun ls hl => ?_)
      refine lv_iconst (v := (1 : Int32)) hx hb dL_fix_15 (by decide) ?_
      cases (show some _ = some _ from hk)
      exact we_i hx hb hr hlocks hP rfl hS dL_fix_16 (by decide) (by decide)
    have hk := it_f cz8 hk
    exact nomatch (show none = some _ from hk)
  have hk := hn6 _ ho
  refine lv_i2l (v := (v1).toInt64) hx hb dL_fix_8 rfl ?_
  obtain ⟨O9, eO9, hk⟩ := lq_s hk
  refine wa_lastore_56 hx hb hZ hK hP hS (by decide) (by unfold vp_in; decide) dL_fix_9 (fun H locs hP hS => ?_)
  rw [← eO9] at hP
  refine lv_goto (tgt := 17) hx hb dL_fix_10 (by decide) ?_
  refine lv_iconst (v := (0 : Int32)) hx hb dL_fix_17 (by decide) ?_
  cases (show some _ = some _ from hk)
  exact we_i hx hb hr hlocks hP rfl hS dL_fix_18 (by decide) (by decide)
set_option maxHeartbeats 4000000 in
set_option maxRecDepth 100000 in
theorem k_L_tests (l : Launch) (hfl : l.stackTraces = false) (Z : ZT) (hZ : wD Z) (X M O : SS) (p1 : Int32) (Oz : SS) (r : Int32) (hf : f_L_tests X O p1 = some (Oz, r)) (sz : Nat) : vx_Met l yL_tests ws_L_tests rm_L_tests (va_Pc [.ref (Z.2.2 0 0), .int p1, .ref (Z.2.2 56 0)] (cP Z (X, M, O) sz)) (cQi Z (X, M, Oz) (.inl r) sz) (cX Z (X, M, Oz) (.inl r : Int32 ⊕ String) sz) 1 6 (wA Z sz) := by
  refine vx_ofWH (cc := cL_tests) (maxL := 4) (ret := (some .int)) (hh := [(0, 9, 12, 28)]) (by decide) rfl ?_
  intro p e s m args below meth c s₁ B hml hv
  obtain ⟨hargs, hsz, hE, hP, hK⟩ := hv
  have hx := B.exec
  have hb := B.bytes
  have hr := B.returns
  have hts0 := atoms_spec (ws := ws_L_tests) B.pre
  have hts : ∀ w ∈ lw_all, w.before args s = true := fun w h => hts0 w (List.mem_cons_of_mem _ h)
  have hown : s.vm.findClass RL = some m.cls := findClass_of_methodNamed B.named
  have hlocks := B.notSynchronized
  have htab := vx_table (x := yL_tests) B (hts0 (.codeWith yL_tests cL_tests 4 (some .int) [(0, 9, 12, 28)]) List.mem_cons_self)
  subst hsz
  have hS : va_S (wA Z s.heap.size) s.heap s.heap [] := va_S.rf
  have hl := lv_entry ([.ref (Z.2.2 0 0), .int p1, .ref (Z.2.2 56 0)]) (n := 4) (Nat.le_of_ble_eq_true rfl)
  have hen : entryFrame m args 4 = entryFrame m ([.ref (Z.2.2 0 0), .int p1, .ref (Z.2.2 56 0)] : List Value).toArray 4 := by rw [hargs]
  rw [hen, lg_entry_eq]
  generalize (lg_sl ([.ref (Z.2.2 0 0), .int p1, .ref (Z.2.2 56 0)]) ++ List.replicate (4 - (lg_sl ([.ref (Z.2.2 0 0), .int p1, .ref (Z.2.2 56 0)])).length) Slot.unset).toArray = ls at hl ⊢
  have hl : lv_has ls 4 [(0, .ref (Z.2.2 0 0)), (1, .int p1), (2, .ref (Z.2.2 56 0))] := hl
  have hk := hf
  unfold f_L_tests at hk
  refine lv_aload_n hx hb dL_tests_0 rfl (lv_at hl 2 rfl) ?_
  refine lv_iconst (v := (0 : Int32)) hx hb dL_tests_1 (by decide) ?_
  refine lv_aload_n hx hb dL_tests_2 rfl (lv_at hl 0 rfl) ?_
  refine lv_iload_n hx hb dL_tests_3 rfl (lv_at hl 1 rfl) ?_
  obtain ⟨o3, hf2, hn5, he6⟩ := e0_s hk
  refine wc_iV (rest := [.int (0 : Int32), .ref (Z.2.2 56 0)]) (As := [.int p1]) ⟨hx, hb, hml, hown, hts⟩ (fun sz => k_X6_tests l hfl Z hZ X M O p1 o3 hf2 sz) (cw_RL_34 (args := args) (s := s) hts (Nat.le_of_ble_eq_true rfl) (Nat.le_of_ble_eq_true rfl)) hE hP hK hS (rv_0 hK hP (by decide)) rfl hl.1 rfl (Nat.le_of_ble_eq_true rfl) dL_tests_4 ⟨Nat.le_of_ble_eq_true rfl, Nat.le_of_ble_eq_true rfl⟩ (fun E4 ce9 q9 H locs hoE hP hS hc9 hv9 hcl9 => ?_) (fun v1 H locs ho hP hS => ?_)
  · have hk := he6 _ hoE
    by_cases cz7 : E4 = "java/lang/IndexOutOfBoundsException"
    · have hk := it_t cz7 hk
      subst cz7
      refine vx_catch hown [] ⟨0, 9, 12, 28⟩ [] (htab.trans rfl) (fun z hz => nomatch hz) (by decide) (by decide) (hts _ q753) (EV.cast hE (by decide +kernel)) hc9 hv9 hcl9 ?_
      refine lv_astore_n (lv' := [(3, .ref q9), (0, .ref (Z.2.2 0 0)), (1, .int p1), (2, .ref (Z.2.2 56 0))]) hx hb dL_tests_12 rfl hl (by decide) rfl (fun ls hl => ?_)
      refine lv_iconst (v := (1 : Int32)) hx hb dL_tests_13 (by decide) ?_
      cases (show some _ = some _ from hk)
      exact we_i hx hb hr hlocks hP rfl hS dL_tests_14 (by decide) (by decide)
    have hk := it_f cz7 hk
    exact nomatch (show none = some _ from hk)
  have hk := hn5 _ ho
  refine lv_i2l (v := (v1).toInt64) hx hb dL_tests_7 rfl ?_
  obtain ⟨O8, eO8, hk⟩ := lq_s hk
  refine wa_lastore_56 hx hb hZ hK hP hS (by decide) (by unfold vp_in; decide) dL_tests_8 (fun H locs hP hS => ?_)
  rw [← eO8] at hP
  refine lv_goto (tgt := 15) hx hb dL_tests_9 (by decide) ?_
  refine lv_iconst (v := (0 : Int32)) hx hb dL_tests_15 (by decide) ?_
  cases (show some _ = some _ from hk)
  exact we_i hx hb hr hlocks hP rfl hS dL_tests_16 (by decide) (by decide)
set_option maxHeartbeats 4000000 in
set_option maxRecDepth 100000 in
theorem k_L_run (l : Launch) (hfl : l.stackTraces = false) (Z : ZT) (hZ : wD Z) (X M O : SS) (p1 : Int32) (p2 : Int32) (Xz : SS) (Oz : SS) (r : Int32) (hf : f_L_run X O p1 p2 = some (Xz, Oz, r)) (sz : Nat) : vx_Met l yL_run ws_L_run rm_L_run (va_Pc [.ref (Z.2.2 0 0), .int p1, .int p2, .ref (Z.2.2 56 0)] (cP Z (X, M, O) sz)) (cQi Z (Xz, M, Oz) (.inl r) sz) (cX Z (Xz, M, Oz) (.inl r : Int32 ⊕ String) sz) 3 18 (wA Z sz) := by
  refine vx_ofWH (cc := cL_run) (maxL := 5) (ret := (some .int)) (hh := [(0, 10, 13, 28), (0, 10, 17, 41)]) (by decide) rfl ?_
  intro p e s m args below meth c s₁ B hml hv
  obtain ⟨hargs, hsz, hE, hP, hK⟩ := hv
  have hx := B.exec
  have hb := B.bytes
  have hr := B.returns
  have hts0 := atoms_spec (ws := ws_L_run) B.pre
  have hts : ∀ w ∈ lw_all, w.before args s = true := fun w h => hts0 w (List.mem_cons_of_mem _ h)
  have hown : s.vm.findClass RL = some m.cls := findClass_of_methodNamed B.named
  have hlocks := B.notSynchronized
  have htab := vx_table (x := yL_run) B (hts0 (.codeWith yL_run cL_run 5 (some .int) [(0, 10, 13, 28), (0, 10, 17, 41)]) List.mem_cons_self)
  subst hsz
  have hS : va_S (wA Z s.heap.size) s.heap s.heap [] := va_S.rf
  have hl := lv_entry ([.ref (Z.2.2 0 0), .int p1, .int p2, .ref (Z.2.2 56 0)]) (n := 5) (Nat.le_of_ble_eq_true rfl)
  have hen : entryFrame m args 5 = entryFrame m ([.ref (Z.2.2 0 0), .int p1, .int p2, .ref (Z.2.2 56 0)] : List Value).toArray 5 := by rw [hargs]
  rw [hen, lg_entry_eq]
  generalize (lg_sl ([.ref (Z.2.2 0 0), .int p1, .int p2, .ref (Z.2.2 56 0)]) ++ List.replicate (5 - (lg_sl ([.ref (Z.2.2 0 0), .int p1, .int p2, .ref (Z.2.2 56 0)])).length) Slot.unset).toArray = ls at hl ⊢
  have hl : lv_has ls 5 [(0, .ref (Z.2.2 0 0)), (1, .int p1), (2, .int p2), (3, .ref (Z.2.2 56 0))] := hl
  have hk := hf
  unfold f_L_run at hk
  refine lv_aload_n hx hb dL_run_0 rfl (lv_at hl 3 rfl) ?_
  refine lv_iconst (v := (0 : Int32)) hx hb dL_run_1 (by decide) ?_
  refine lv_aload_n hx hb dL_run_2 rfl (lv_at hl 0 rfl) ?_
  refine lv_iload_n hx hb dL_run_3 rfl (lv_at hl 1 rfl) ?_
  refine lv_iload_n hx hb dL_run_4 rfl (lv_at hl 2 rfl) ?_
  obtain ⟨X2, o4, hf3, hn6, he7⟩ := e1_s hk
  refine wc_iV (rest := [.int (0 : Int32), .ref (Z.2.2 56 0)]) (As := [.int p1, .int p2]) ⟨hx, hb, hml, hown, hts⟩ (fun sz => k_X6_run l hfl Z hZ X M O p1 p2 X2 o4 hf3 sz) (cw_RL_37 (args := args) (s := s) hts (Nat.le_of_ble_eq_true rfl) (Nat.le_of_ble_eq_true rfl)) hE hP hK hS (rv_0 hK hP (by decide)) rfl hl.1 rfl (Nat.le_of_ble_eq_true rfl) dL_run_5 ⟨Nat.le_of_ble_eq_true rfl, Nat.le_of_ble_eq_true rfl⟩ (fun E5 ce9 q9 H locs hoE hP hS hc9 hv9 hcl9 => ?_) (fun v1 H locs ho hP hS => ?_)
  · have hk := he7 _ hoE
    by_cases cz8 : E5 = "java/lang/IndexOutOfBoundsException"
    · have hk := it_t cz8 hk
      subst cz8
      refine vx_catch hown [] ⟨0, 10, 13, 28⟩ [⟨0, 10, 17, 41⟩] (htab.trans rfl) (fun z hz => nomatch hz) (by decide) (by decide) (hts _ q753) (EV.cast hE (by decide +kernel)) hc9 hv9 hcl9 ?_
      refine lv_astore (lv' := [(4, .ref q9), (0, .ref (Z.2.2 0 0)), (1, .int p1), (2, .int p2), (3, .ref (Z.2.2 56 0))]) hx hb dL_run_13 hl (by decide) rfl (fun ls hl => ?_)
      refine lv_iconst (v := (1 : Int32)) hx hb dL_run_15 (by decide) ?_
      cases (show some _ = some _ from hk)
      exact we_i hx hb hr hlocks hP rfl hS dL_run_16 (by decide) (by decide)
    have hk := it_f cz8 hk
    by_cases cz9 : E5 = "java/lang/UnsupportedOperationException"
    · have hk := it_t cz9 hk
      subst cz9
      refine vx_catch hown [⟨0, 10, 13, 28⟩] ⟨0, 10, 17, 41⟩ [] (htab.trans rfl) (by intro z hz; simp only [List.mem_cons, List.not_mem_nil, or_false] at hz; rcases hz with rfl <;> first | exact Or.inr ⟨by decide, "java/lang/IndexOutOfBoundsException", hts _ q753, EV.nc hE (by decide +kernel)⟩) (by decide) (by decide) (hts _ q829) (EV.cast hE (by decide +kernel)) hc9 hv9 hcl9 ?_
      refine lv_astore (lv' := [(4, .ref q9), (0, .ref (Z.2.2 0 0)), (1, .int p1), (2, .int p2), (3, .ref (Z.2.2 56 0))]) hx hb dL_run_17 hl (by decide) rfl (fun ls hl => ?_)
      refine lv_iconst (v := (2 : Int32)) hx hb dL_run_19 (by decide) ?_
      cases (show some _ = some _ from hk)
      exact we_i hx hb hr hlocks hP rfl hS dL_run_20 (by decide) (by decide)
    have hk := it_f cz9 hk
    exact nomatch (show none = some _ from hk)
  have hk := hn6 _ ho
  refine lv_i2l (v := (v1).toInt64) hx hb dL_run_8 rfl ?_
  obtain ⟨O10, eO10, hk⟩ := lq_s hk
  refine wa_lastore_56 hx hb hZ hK hP hS (by decide) (by unfold vp_in; decide) dL_run_9 (fun H locs hP hS => ?_)
  rw [← eO10] at hP
  refine lv_goto (tgt := 21) hx hb dL_run_10 (by decide) ?_
  refine lv_iconst (v := (0 : Int32)) hx hb dL_run_21 (by decide) ?_
  cases (show some _ = some _ from hk)
  exact we_i hx hb hr hlocks hP rfl hS dL_run_22 (by decide) (by decide)
set_option maxHeartbeats 4000000 in
set_option maxRecDepth 100000 in
theorem k_L_done (l : Launch) (hfl : l.stackTraces = false) (Z : ZT) (hZ : wD Z) (X M O : SS) (Oz : SS) (r : Int32) (hf : f_L_done X O = some (Oz, r)) (sz : Nat) : vx_Met l yL_done ws_L_done rm_L_done (va_Pc [.ref (Z.2.2 0 0), .ref (Z.2.2 56 0)] (cP Z (X, M, O) sz)) (cQi Z (X, M, Oz) (.inl r) sz) (cX Z (X, M, Oz) (.inl r : Int32 ⊕ String) sz) 1 6 (wA Z sz) := by
  refine vx_ofWH (cc := cL_done) (maxL := 3) (ret := (some .int)) (hh := [(0, 8, 11, 47)]) (by decide) rfl ?_
  intro p e s m args below meth c s₁ B hml hv
  obtain ⟨hargs, hsz, hE, hP, hK⟩ := hv
  have hx := B.exec
  have hb := B.bytes
  have hr := B.returns
  have hts0 := atoms_spec (ws := ws_L_done) B.pre
  have hts : ∀ w ∈ lw_all, w.before args s = true := fun w h => hts0 w (List.mem_cons_of_mem _ h)
  have hown : s.vm.findClass RL = some m.cls := findClass_of_methodNamed B.named
  have hlocks := B.notSynchronized
  have htab := vx_table (x := yL_done) B (hts0 (.codeWith yL_done cL_done 3 (some .int) [(0, 8, 11, 47)]) List.mem_cons_self)
  subst hsz
  have hS : va_S (wA Z s.heap.size) s.heap s.heap [] := va_S.rf
  have hl := lv_entry ([.ref (Z.2.2 0 0), .ref (Z.2.2 56 0)]) (n := 3) (Nat.le_of_ble_eq_true rfl)
  have hen : entryFrame m args 3 = entryFrame m ([.ref (Z.2.2 0 0), .ref (Z.2.2 56 0)] : List Value).toArray 3 := by rw [hargs]
  rw [hen, lg_entry_eq]
  generalize (lg_sl ([.ref (Z.2.2 0 0), .ref (Z.2.2 56 0)]) ++ List.replicate (3 - (lg_sl ([.ref (Z.2.2 0 0), .ref (Z.2.2 56 0)])).length) Slot.unset).toArray = ls at hl ⊢
  have hl : lv_has ls 3 [(0, .ref (Z.2.2 0 0)), (1, .ref (Z.2.2 56 0))] := hl
  have hk := hf
  unfold f_L_done at hk
  refine lv_aload_n hx hb dL_done_0 rfl (lv_at hl 1 rfl) ?_
  refine lv_iconst (v := (0 : Int32)) hx hb dL_done_1 (by decide) ?_
  refine lv_aload_n hx hb dL_done_2 rfl (lv_at hl 0 rfl) ?_
  obtain ⟨o3, hf2, hn5, he6⟩ := e0_s hk
  refine wc_iV (rest := [.int (0 : Int32), .ref (Z.2.2 56 0)]) (As := []) ⟨hx, hb, hml, hown, hts⟩ (fun sz => k_X6_done l hfl Z hZ X M O o3 hf2 sz) (cw_RL_43 (args := args) (s := s) hts (Nat.le_of_ble_eq_true rfl) (Nat.le_of_ble_eq_true rfl)) hE hP hK hS (rv_0 hK hP (by decide)) rfl hl.1 rfl (Nat.le_of_ble_eq_true rfl) dL_done_3 ⟨Nat.le_of_ble_eq_true rfl, Nat.le_of_ble_eq_true rfl⟩ (fun E4 ce9 q9 H locs hoE hP hS hc9 hv9 hcl9 => ?_) (fun v1 H locs ho hP hS => ?_)
  · have hk := he6 _ hoE
    by_cases cz7 : E4 = "java/util/NoSuchElementException"
    · have hk := it_t cz7 hk
      subst cz7
      refine vx_catch hown [] ⟨0, 8, 11, 47⟩ [] (htab.trans rfl) (fun z hz => nomatch hz) (by decide) (by decide) (hts _ q857) (EV.cast hE (by decide +kernel)) hc9 hv9 hcl9 ?_
      refine lv_astore_n (lv' := [(2, .ref q9), (0, .ref (Z.2.2 0 0)), (1, .ref (Z.2.2 56 0))]) hx hb dL_done_11 rfl hl (by decide) rfl (fun ls hl => ?_)
      refine lv_iconst (v := (1 : Int32)) hx hb dL_done_12 (by decide) ?_
      cases (show some _ = some _ from hk)
      exact we_i hx hb hr hlocks hP rfl hS dL_done_13 (by decide) (by decide)
    have hk := it_f cz7 hk
    exact nomatch (show none = some _ from hk)
  have hk := hn5 _ ho
  refine lv_i2l (v := (v1).toInt64) hx hb dL_done_6 rfl ?_
  obtain ⟨O8, eO8, hk⟩ := lq_s hk
  refine wa_lastore_56 hx hb hZ hK hP hS (by decide) (by unfold vp_in; decide) dL_done_7 (fun H locs hP hS => ?_)
  rw [← eO8] at hP
  refine lv_goto (tgt := 14) hx hb dL_done_8 (by decide) ?_
  refine lv_iconst (v := (0 : Int32)) hx hb dL_done_14 (by decide) ?_
  cases (show some _ = some _ from hk)
  exact we_i hx hb hr hlocks hP rfl hS dL_done_15 (by decide) (by decide)
set_option maxHeartbeats 4000000 in
set_option maxRecDepth 100000 in
theorem k_L_outputs (l : Launch) (hfl : l.stackTraces = false) (Z : ZT) (hZ : wD Z) (X M O : SS) (Oz : SS) (r : Int32) (hf : f_L_outputs X O = some (Oz, r)) (sz : Nat) : vx_Met l yL_outputs ws_L_outputs rm_L_outputs (va_Pc [.ref (Z.2.2 0 0), .ref (Z.2.2 56 0)] (cP Z (X, M, O) sz)) (cQi Z (X, M, Oz) (.inl r) sz) (cX Z (X, M, Oz) (.inl r : Int32 ⊕ String) sz) 1 6 (wA Z sz) := by
  refine vx_ofWH (cc := cL_outputs) (maxL := 3) (ret := (some .int)) (hh := [(0, 8, 11, 47)]) (by decide) rfl ?_
  intro p e s m args below meth c s₁ B hml hv
  obtain ⟨hargs, hsz, hE, hP, hK⟩ := hv
  have hx := B.exec
  have hb := B.bytes
  have hr := B.returns
  have hts0 := atoms_spec (ws := ws_L_outputs) B.pre
  have hts : ∀ w ∈ lw_all, w.before args s = true := fun w h => hts0 w (List.mem_cons_of_mem _ h)
  have hown : s.vm.findClass RL = some m.cls := findClass_of_methodNamed B.named
  have hlocks := B.notSynchronized
  have htab := vx_table (x := yL_outputs) B (hts0 (.codeWith yL_outputs cL_outputs 3 (some .int) [(0, 8, 11, 47)]) List.mem_cons_self)
  subst hsz
  have hS : va_S (wA Z s.heap.size) s.heap s.heap [] := va_S.rf
  have hl := lv_entry ([.ref (Z.2.2 0 0), .ref (Z.2.2 56 0)]) (n := 3) (Nat.le_of_ble_eq_true rfl)
  have hen : entryFrame m args 3 = entryFrame m ([.ref (Z.2.2 0 0), .ref (Z.2.2 56 0)] : List Value).toArray 3 := by rw [hargs]
  rw [hen, lg_entry_eq]
  generalize (lg_sl ([.ref (Z.2.2 0 0), .ref (Z.2.2 56 0)]) ++ List.replicate (3 - (lg_sl ([.ref (Z.2.2 0 0), .ref (Z.2.2 56 0)])).length) Slot.unset).toArray = ls at hl ⊢
  have hl : lv_has ls 3 [(0, .ref (Z.2.2 0 0)), (1, .ref (Z.2.2 56 0))] := hl
  have hk := hf
  unfold f_L_outputs at hk
  refine lv_aload_n hx hb dL_outputs_0 rfl (lv_at hl 1 rfl) ?_
  refine lv_iconst (v := (0 : Int32)) hx hb dL_outputs_1 (by decide) ?_
  refine lv_aload_n hx hb dL_outputs_2 rfl (lv_at hl 0 rfl) ?_
  obtain ⟨o3, hf2, hn5, he6⟩ := e0_s hk
  refine wc_iV (rest := [.int (0 : Int32), .ref (Z.2.2 56 0)]) (As := []) ⟨hx, hb, hml, hown, hts⟩ (fun sz => k_X6_outputs l hfl Z hZ X M O o3 hf2 sz) (cw_RL_49 (args := args) (s := s) hts (Nat.le_of_ble_eq_true rfl) (Nat.le_of_ble_eq_true rfl)) hE hP hK hS (rv_0 hK hP (by decide)) rfl hl.1 rfl (Nat.le_of_ble_eq_true rfl) dL_outputs_3 ⟨Nat.le_of_ble_eq_true rfl, Nat.le_of_ble_eq_true rfl⟩ (fun E4 ce9 q9 H locs hoE hP hS hc9 hv9 hcl9 => ?_) (fun v1 H locs ho hP hS => ?_)
  · have hk := he6 _ hoE
    by_cases cz7 : E4 = "java/util/NoSuchElementException"
    · have hk := it_t cz7 hk
      subst cz7
      refine vx_catch hown [] ⟨0, 8, 11, 47⟩ [] (htab.trans rfl) (fun z hz => nomatch hz) (by decide) (by decide) (hts _ q857) (EV.cast hE (by decide +kernel)) hc9 hv9 hcl9 ?_
      refine lv_astore_n (lv' := [(2, .ref q9), (0, .ref (Z.2.2 0 0)), (1, .ref (Z.2.2 56 0))]) hx hb dL_outputs_11 rfl hl (by decide) rfl (fun ls hl => ?_)
      refine lv_iconst (v := (1 : Int32)) hx hb dL_outputs_12 (by decide) ?_
      cases (show some _ = some _ from hk)
      exact we_i hx hb hr hlocks hP rfl hS dL_outputs_13 (by decide) (by decide)
    have hk := it_f cz7 hk
    exact nomatch (show none = some _ from hk)
  have hk := hn5 _ ho
  refine lv_i2l (v := (v1).toInt64) hx hb dL_outputs_6 rfl ?_
  obtain ⟨O8, eO8, hk⟩ := lq_s hk
  refine wa_lastore_56 hx hb hZ hK hP hS (by decide) (by unfold vp_in; decide) dL_outputs_7 (fun H locs hP hS => ?_)
  rw [← eO8] at hP
  refine lv_goto (tgt := 14) hx hb dL_outputs_8 (by decide) ?_
  refine lv_iconst (v := (0 : Int32)) hx hb dL_outputs_14 (by decide) ?_
  cases (show some _ = some _ from hk)
  exact we_i hx hb hr hlocks hP rfl hS dL_outputs_15 (by decide) (by decide)
set_option maxHeartbeats 4000000 in
set_option maxRecDepth 100000 in
theorem k_L_output (l : Launch) (hfl : l.stackTraces = false) (Z : ZT) (hZ : wD Z) (X M O : SS) (p1 : Int32) (Oz : SS) (r : Int32) (hf : f_L_output X O p1 = some (Oz, r)) (sz : Nat) : vx_Met l yL_output ws_L_output rm_L_output (va_Pc [.ref (Z.2.2 0 0), .int p1, .ref (Z.2.2 56 0)] (cP Z (X, M, O) sz)) (cQi Z (X, M, Oz) (.inl r) sz) (cX Z (X, M, Oz) (.inl r : Int32 ⊕ String) sz) 2 12 (wA Z sz) := by
  refine vx_ofWH (cc := cL_output) (maxL := 4) (ret := (some .int)) (hh := [(0, 9, 12, 47)]) (by decide) rfl ?_
  intro p e s m args below meth c s₁ B hml hv
  obtain ⟨hargs, hsz, hE, hP, hK⟩ := hv
  have hx := B.exec
  have hb := B.bytes
  have hr := B.returns
  have hts0 := atoms_spec (ws := ws_L_output) B.pre
  have hts : ∀ w ∈ lw_all, w.before args s = true := fun w h => hts0 w (List.mem_cons_of_mem _ h)
  have hown : s.vm.findClass RL = some m.cls := findClass_of_methodNamed B.named
  have hlocks := B.notSynchronized
  have htab := vx_table (x := yL_output) B (hts0 (.codeWith yL_output cL_output 4 (some .int) [(0, 9, 12, 47)]) List.mem_cons_self)
  subst hsz
  have hS : va_S (wA Z s.heap.size) s.heap s.heap [] := va_S.rf
  have hl := lv_entry ([.ref (Z.2.2 0 0), .int p1, .ref (Z.2.2 56 0)]) (n := 4) (Nat.le_of_ble_eq_true rfl)
  have hen : entryFrame m args 4 = entryFrame m ([.ref (Z.2.2 0 0), .int p1, .ref (Z.2.2 56 0)] : List Value).toArray 4 := by rw [hargs]
  rw [hen, lg_entry_eq]
  generalize (lg_sl ([.ref (Z.2.2 0 0), .int p1, .ref (Z.2.2 56 0)]) ++ List.replicate (4 - (lg_sl ([.ref (Z.2.2 0 0), .int p1, .ref (Z.2.2 56 0)])).length) Slot.unset).toArray = ls at hl ⊢
  have hl : lv_has ls 4 [(0, .ref (Z.2.2 0 0)), (1, .int p1), (2, .ref (Z.2.2 56 0))] := hl
  have hk := hf
  unfold f_L_output at hk
  refine lv_aload_n hx hb dL_output_0 rfl (lv_at hl 2 rfl) ?_
  refine lv_iconst (v := (0 : Int32)) hx hb dL_output_1 (by decide) ?_
  refine lv_aload_n hx hb dL_output_2 rfl (lv_at hl 0 rfl) ?_
  refine lv_iload_n hx hb dL_output_3 rfl (lv_at hl 1 rfl) ?_
  obtain ⟨o3, hf2, hn5, he6⟩ := e0_s hk
  refine wc_iV (rest := [.int (0 : Int32), .ref (Z.2.2 56 0)]) (As := [.int p1]) ⟨hx, hb, hml, hown, hts⟩ (fun sz => k_X6_output l hfl Z hZ X M O p1 o3 hf2 sz) (cw_RL_52 (args := args) (s := s) hts (Nat.le_of_ble_eq_true rfl) (Nat.le_of_ble_eq_true rfl)) hE hP hK hS (rv_0 hK hP (by decide)) rfl hl.1 rfl (Nat.le_of_ble_eq_true rfl) dL_output_4 ⟨Nat.le_of_ble_eq_true rfl, Nat.le_of_ble_eq_true rfl⟩ (fun E4 ce9 q9 H locs hoE hP hS hc9 hv9 hcl9 => ?_) (fun v1 H locs ho hP hS => ?_)
  · have hk := he6 _ hoE
    by_cases cz7 : E4 = "java/util/NoSuchElementException"
    · have hk := it_t cz7 hk
      subst cz7
      refine vx_catch hown [] ⟨0, 9, 12, 47⟩ [] (htab.trans rfl) (fun z hz => nomatch hz) (by decide) (by decide) (hts _ q857) (EV.cast hE (by decide +kernel)) hc9 hv9 hcl9 ?_
      refine lv_astore_n (lv' := [(3, .ref q9), (0, .ref (Z.2.2 0 0)), (1, .int p1), (2, .ref (Z.2.2 56 0))]) hx hb dL_output_12 rfl hl (by decide) rfl (fun ls hl => ?_)
      refine lv_iconst (v := (1 : Int32)) hx hb dL_output_13 (by decide) ?_
      cases (show some _ = some _ from hk)
      exact we_i hx hb hr hlocks hP rfl hS dL_output_14 (by decide) (by decide)
    have hk := it_f cz7 hk
    exact nomatch (show none = some _ from hk)
  have hk := hn5 _ ho
  refine lv_i2l (v := (v1).toInt64) hx hb dL_output_7 rfl ?_
  obtain ⟨O8, eO8, hk⟩ := lq_s hk
  refine wa_lastore_56 hx hb hZ hK hP hS (by decide) (by unfold vp_in; decide) dL_output_8 (fun H locs hP hS => ?_)
  rw [← eO8] at hP
  refine lv_goto (tgt := 15) hx hb dL_output_9 (by decide) ?_
  refine lv_iconst (v := (0 : Int32)) hx hb dL_output_15 (by decide) ?_
  cases (show some _ = some _ from hk)
  exact we_i hx hb hr hlocks hP rfl hS dL_output_16 (by decide) (by decide)
set_option maxHeartbeats 4000000 in
set_option maxRecDepth 100000 in
theorem k_L_depth (l : Launch) (hfl : l.stackTraces = false) (Z : ZT) (hZ : wD Z) (X M O : SS) (Oz : SS) (r : Int32) (hf : f_L_depth X O = some (Oz, r)) (sz : Nat) : vx_Met l yL_depth ws_L_depth rm_L_depth (va_Pc [.ref (Z.2.2 0 0), .ref (Z.2.2 56 0)] (cP Z (X, M, O) sz)) (cQi Z (X, M, Oz) (.inl r) sz) (cX Z (X, M, Oz) (.inl r : Int32 ⊕ String) sz) 1 6 (wA Z sz) := by
  refine vx_ofWH (cc := cL_depth) (maxL := 3) (ret := (some .int)) (hh := [(0, 8, 11, 47)]) (by decide) rfl ?_
  intro p e s m args below meth c s₁ B hml hv
  obtain ⟨hargs, hsz, hE, hP, hK⟩ := hv
  have hx := B.exec
  have hb := B.bytes
  have hr := B.returns
  have hts0 := atoms_spec (ws := ws_L_depth) B.pre
  have hts : ∀ w ∈ lw_all, w.before args s = true := fun w h => hts0 w (List.mem_cons_of_mem _ h)
  have hown : s.vm.findClass RL = some m.cls := findClass_of_methodNamed B.named
  have hlocks := B.notSynchronized
  have htab := vx_table (x := yL_depth) B (hts0 (.codeWith yL_depth cL_depth 3 (some .int) [(0, 8, 11, 47)]) List.mem_cons_self)
  subst hsz
  have hS : va_S (wA Z s.heap.size) s.heap s.heap [] := va_S.rf
  have hl := lv_entry ([.ref (Z.2.2 0 0), .ref (Z.2.2 56 0)]) (n := 3) (Nat.le_of_ble_eq_true rfl)
  have hen : entryFrame m args 3 = entryFrame m ([.ref (Z.2.2 0 0), .ref (Z.2.2 56 0)] : List Value).toArray 3 := by rw [hargs]
  rw [hen, lg_entry_eq]
  generalize (lg_sl ([.ref (Z.2.2 0 0), .ref (Z.2.2 56 0)]) ++ List.replicate (3 - (lg_sl ([.ref (Z.2.2 0 0), .ref (Z.2.2 56 0)])).length) Slot.unset).toArray = ls at hl ⊢
  have hl : lv_has ls 3 [(0, .ref (Z.2.2 0 0)), (1, .ref (Z.2.2 56 0))] := hl
  have hk := hf
  unfold f_L_depth at hk
  refine lv_aload_n hx hb dL_depth_0 rfl (lv_at hl 1 rfl) ?_
  refine lv_iconst (v := (0 : Int32)) hx hb dL_depth_1 (by decide) ?_
  refine lv_aload_n hx hb dL_depth_2 rfl (lv_at hl 0 rfl) ?_
  obtain ⟨o3, hf2, hn5, he6⟩ := e0_s hk
  refine wc_iV (rest := [.int (0 : Int32), .ref (Z.2.2 56 0)]) (As := []) ⟨hx, hb, hml, hown, hts⟩ (fun sz => k_X6_depth l hfl Z hZ X M O o3 hf2 sz) (cw_RL_55 (args := args) (s := s) hts (Nat.le_of_ble_eq_true rfl) (Nat.le_of_ble_eq_true rfl)) hE hP hK hS (rv_0 hK hP (by decide)) rfl hl.1 rfl (Nat.le_of_ble_eq_true rfl) dL_depth_3 ⟨Nat.le_of_ble_eq_true rfl, Nat.le_of_ble_eq_true rfl⟩ (fun E4 ce9 q9 H locs hoE hP hS hc9 hv9 hcl9 => ?_) (fun v1 H locs ho hP hS => ?_)
  · have hk := he6 _ hoE
    by_cases cz7 : E4 = "java/util/NoSuchElementException"
    · have hk := it_t cz7 hk
      subst cz7
      refine vx_catch hown [] ⟨0, 8, 11, 47⟩ [] (htab.trans rfl) (fun z hz => nomatch hz) (by decide) (by decide) (hts _ q857) (EV.cast hE (by decide +kernel)) hc9 hv9 hcl9 ?_
      refine lv_astore_n (lv' := [(2, .ref q9), (0, .ref (Z.2.2 0 0)), (1, .ref (Z.2.2 56 0))]) hx hb dL_depth_11 rfl hl (by decide) rfl (fun ls hl => ?_)
      refine lv_iconst (v := (1 : Int32)) hx hb dL_depth_12 (by decide) ?_
      cases (show some _ = some _ from hk)
      exact we_i hx hb hr hlocks hP rfl hS dL_depth_13 (by decide) (by decide)
    have hk := it_f cz7 hk
    exact nomatch (show none = some _ from hk)
  have hk := hn5 _ ho
  refine lv_i2l (v := (v1).toInt64) hx hb dL_depth_6 rfl ?_
  obtain ⟨O8, eO8, hk⟩ := lq_s hk
  refine wa_lastore_56 hx hb hZ hK hP hS (by decide) (by unfold vp_in; decide) dL_depth_7 (fun H locs hP hS => ?_)
  rw [← eO8] at hP
  refine lv_goto (tgt := 14) hx hb dL_depth_8 (by decide) ?_
  refine lv_iconst (v := (0 : Int32)) hx hb dL_depth_14 (by decide) ?_
  cases (show some _ = some _ from hk)
  exact we_i hx hb hr hlocks hP rfl hS dL_depth_15 (by decide) (by decide)
set_option maxHeartbeats 4000000 in
set_option maxRecDepth 100000 in
theorem k_L_member (l : Launch) (hfl : l.stackTraces = false) (Z : ZT) (hZ : wD Z) (X M O : SS) (Xz : SS) (Oz : SS) (r : Int32) (hf : f_L_member X O = some (Xz, Oz, r)) (sz : Nat) : vx_Met l yL_member ws_L_member rm_L_member (va_Pc [.ref (Z.2.2 0 0), .ref (Z.2.2 56 0)] (cP Z (X, M, O) sz)) (cQi Z (Xz, M, Oz) (.inl r) sz) (cX Z (Xz, M, Oz) (.inl r : Int32 ⊕ String) sz) 1 6 (wA Z sz) := by
  refine vx_ofWH (cc := cL_member) (maxL := 3) (ret := (some .int)) (hh := [(0, 8, 11, 15)]) (by decide) rfl ?_
  intro p e s m args below meth c s₁ B hml hv
  obtain ⟨hargs, hsz, hE, hP, hK⟩ := hv
  have hx := B.exec
  have hb := B.bytes
  have hr := B.returns
  have hts0 := atoms_spec (ws := ws_L_member) B.pre
  have hts : ∀ w ∈ lw_all, w.before args s = true := fun w h => hts0 w (List.mem_cons_of_mem _ h)
  have hown : s.vm.findClass RL = some m.cls := findClass_of_methodNamed B.named
  have hlocks := B.notSynchronized
  have htab := vx_table (x := yL_member) B (hts0 (.codeWith yL_member cL_member 3 (some .int) [(0, 8, 11, 15)]) List.mem_cons_self)
  subst hsz
  have hS : va_S (wA Z s.heap.size) s.heap s.heap [] := va_S.rf
  have hl := lv_entry ([.ref (Z.2.2 0 0), .ref (Z.2.2 56 0)]) (n := 3) (Nat.le_of_ble_eq_true rfl)
  have hen : entryFrame m args 3 = entryFrame m ([.ref (Z.2.2 0 0), .ref (Z.2.2 56 0)] : List Value).toArray 3 := by rw [hargs]
  rw [hen, lg_entry_eq]
  generalize (lg_sl ([.ref (Z.2.2 0 0), .ref (Z.2.2 56 0)]) ++ List.replicate (3 - (lg_sl ([.ref (Z.2.2 0 0), .ref (Z.2.2 56 0)])).length) Slot.unset).toArray = ls at hl ⊢
  have hl : lv_has ls 3 [(0, .ref (Z.2.2 0 0)), (1, .ref (Z.2.2 56 0))] := hl
  have hk := hf
  unfold f_L_member at hk
  refine lv_aload_n hx hb dL_member_0 rfl (lv_at hl 1 rfl) ?_
  refine lv_iconst (v := (0 : Int32)) hx hb dL_member_1 (by decide) ?_
  refine lv_aload_n hx hb dL_member_2 rfl (lv_at hl 0 rfl) ?_
  obtain ⟨X2, o4, hf3, hn6, he7⟩ := e1_s hk
  refine wc_iV (rest := [.int (0 : Int32), .ref (Z.2.2 56 0)]) (As := []) ⟨hx, hb, hml, hown, hts⟩ (fun sz => k_X6_member l hfl Z hZ X M O X2 o4 hf3 sz) (cw_RL_58 (args := args) (s := s) hts (Nat.le_of_ble_eq_true rfl) (Nat.le_of_ble_eq_true rfl)) hE hP hK hS (rv_0 hK hP (by decide)) rfl hl.1 rfl (Nat.le_of_ble_eq_true rfl) dL_member_3 ⟨Nat.le_of_ble_eq_true rfl, Nat.le_of_ble_eq_true rfl⟩ (fun E5 ce9 q9 H locs hoE hP hS hc9 hv9 hcl9 => ?_) (fun v1 H locs ho hP hS => ?_)
  · have hk := he7 _ hoE
    by_cases cz8 : E5 = "java/lang/IllegalStateException"
    · have hk := it_t cz8 hk
      subst cz8
      refine vx_catch hown [] ⟨0, 8, 11, 15⟩ [] (htab.trans rfl) (fun z hz => nomatch hz) (by decide) (by decide) (hts _ q537) (EV.cast hE (by decide +kernel)) hc9 hv9 hcl9 ?_
      refine lv_astore_n (lv' := [(2, .ref q9), (0, .ref (Z.2.2 0 0)), (1, .ref (Z.2.2 56 0))]) hx hb dL_member_11 rfl hl (by decide) rfl (fun ls hl => ?_)
      refine lv_iconst (v := (1 : Int32)) hx hb dL_member_12 (by decide) ?_
      cases (show some _ = some _ from hk)
      exact we_i hx hb hr hlocks hP rfl hS dL_member_13 (by decide) (by decide)
    have hk := it_f cz8 hk
    exact nomatch (show none = some _ from hk)
  have hk := hn6 _ ho
  refine lv_i2l (v := (v1).toInt64) hx hb dL_member_6 rfl ?_
  obtain ⟨O9, eO9, hk⟩ := lq_s hk
  refine wa_lastore_56 hx hb hZ hK hP hS (by decide) (by unfold vp_in; decide) dL_member_7 (fun H locs hP hS => ?_)
  rw [← eO9] at hP
  refine lv_goto (tgt := 14) hx hb dL_member_8 (by decide) ?_
  refine lv_iconst (v := (0 : Int32)) hx hb dL_member_14 (by decide) ?_
  cases (show some _ = some _ from hk)
  exact we_i hx hb hr hlocks hP rfl hS dL_member_15 (by decide) (by decide)
set_option maxHeartbeats 4000000 in
set_option maxRecDepth 100000 in
theorem k_L_submit (l : Launch) (hfl : l.stackTraces = false) (Z : ZT) (hZ : wD Z) (X M O : SS) (p1 : Int32) (p2 : Int32) (Xz : SS) (Oz : SS) (r : Int32) (hf : f_L_submit X O p1 p2 = some (Xz, Oz, r)) (sz : Nat) : vx_Met l yL_submit ws_L_submit rm_L_submit (va_Pc [.ref (Z.2.2 0 0), .int p1, .int p2, .ref (Z.2.2 56 0)] (cP Z (X, M, O) sz)) (cQi Z (Xz, M, Oz) (.inl r) sz) (cX Z (Xz, M, Oz) (.inl r : Int32 ⊕ String) sz) 3 18 (wA Z sz) := by
  refine vx_ofWH (cc := cL_submit) (maxL := 5) (ret := (some .int)) (hh := [(0, 10, 13, 28), (0, 10, 17, 41), (0, 10, 21, 15)]) (by decide) rfl ?_
  intro p e s m args below meth c s₁ B hml hv
  obtain ⟨hargs, hsz, hE, hP, hK⟩ := hv
  have hx := B.exec
  have hb := B.bytes
  have hr := B.returns
  have hts0 := atoms_spec (ws := ws_L_submit) B.pre
  have hts : ∀ w ∈ lw_all, w.before args s = true := fun w h => hts0 w (List.mem_cons_of_mem _ h)
  have hown : s.vm.findClass RL = some m.cls := findClass_of_methodNamed B.named
  have hlocks := B.notSynchronized
  have htab := vx_table (x := yL_submit) B (hts0 (.codeWith yL_submit cL_submit 5 (some .int) [(0, 10, 13, 28), (0, 10, 17, 41), (0, 10, 21, 15)]) List.mem_cons_self)
  subst hsz
  have hS : va_S (wA Z s.heap.size) s.heap s.heap [] := va_S.rf
  have hl := lv_entry ([.ref (Z.2.2 0 0), .int p1, .int p2, .ref (Z.2.2 56 0)]) (n := 5) (Nat.le_of_ble_eq_true rfl)
  have hen : entryFrame m args 5 = entryFrame m ([.ref (Z.2.2 0 0), .int p1, .int p2, .ref (Z.2.2 56 0)] : List Value).toArray 5 := by rw [hargs]
  rw [hen, lg_entry_eq]
  generalize (lg_sl ([.ref (Z.2.2 0 0), .int p1, .int p2, .ref (Z.2.2 56 0)]) ++ List.replicate (5 - (lg_sl ([.ref (Z.2.2 0 0), .int p1, .int p2, .ref (Z.2.2 56 0)])).length) Slot.unset).toArray = ls at hl ⊢
  have hl : lv_has ls 5 [(0, .ref (Z.2.2 0 0)), (1, .int p1), (2, .int p2), (3, .ref (Z.2.2 56 0))] := hl
  have hk := hf
  unfold f_L_submit at hk
  refine lv_aload_n hx hb dL_submit_0 rfl (lv_at hl 3 rfl) ?_
  refine lv_iconst (v := (0 : Int32)) hx hb dL_submit_1 (by decide) ?_
  refine lv_aload_n hx hb dL_submit_2 rfl (lv_at hl 0 rfl) ?_
  refine lv_iload_n hx hb dL_submit_3 rfl (lv_at hl 1 rfl) ?_
  refine lv_iload_n hx hb dL_submit_4 rfl (lv_at hl 2 rfl) ?_
  obtain ⟨X2, o4, hf3, hn6, he7⟩ := e1_s hk
  refine wc_iV (rest := [.int (0 : Int32), .ref (Z.2.2 56 0)]) (As := [.int p1, .int p2]) ⟨hx, hb, hml, hown, hts⟩ (fun sz => k_X6_submit l hfl Z hZ X M O p1 p2 X2 o4 hf3 sz) (cw_RL_61 (args := args) (s := s) hts (Nat.le_of_ble_eq_true rfl) (Nat.le_of_ble_eq_true rfl)) hE hP hK hS (rv_0 hK hP (by decide)) rfl hl.1 rfl (Nat.le_of_ble_eq_true rfl) dL_submit_5 ⟨Nat.le_of_ble_eq_true rfl, Nat.le_of_ble_eq_true rfl⟩ (fun E5 ce9 q9 H locs hoE hP hS hc9 hv9 hcl9 => ?_) (fun v1 H locs ho hP hS => ?_)
  · have hk := he7 _ hoE
    by_cases cz8 : E5 = "java/lang/IndexOutOfBoundsException"
    · have hk := it_t cz8 hk
      subst cz8
      refine vx_catch hown [] ⟨0, 10, 13, 28⟩ [⟨0, 10, 17, 41⟩, ⟨0, 10, 21, 15⟩] (htab.trans rfl) (fun z hz => nomatch hz) (by decide) (by decide) (hts _ q753) (EV.cast hE (by decide +kernel)) hc9 hv9 hcl9 ?_
      refine lv_astore (lv' := [(4, .ref q9), (0, .ref (Z.2.2 0 0)), (1, .int p1), (2, .int p2), (3, .ref (Z.2.2 56 0))]) hx hb dL_submit_13 hl (by decide) rfl (fun ls hl => ?_)
      refine lv_iconst (v := (1 : Int32)) hx hb dL_submit_15 (by decide) ?_
      cases (show some _ = some _ from hk)
      exact we_i hx hb hr hlocks hP rfl hS dL_submit_16 (by decide) (by decide)
    have hk := it_f cz8 hk
    by_cases cz9 : E5 = "java/lang/UnsupportedOperationException"
    · have hk := it_t cz9 hk
      subst cz9
      refine vx_catch hown [⟨0, 10, 13, 28⟩] ⟨0, 10, 17, 41⟩ [⟨0, 10, 21, 15⟩] (htab.trans rfl) (by intro z hz; simp only [List.mem_cons, List.not_mem_nil, or_false] at hz; rcases hz with rfl <;> first | exact Or.inr ⟨by decide, "java/lang/IndexOutOfBoundsException", hts _ q753, EV.nc hE (by decide +kernel)⟩) (by decide) (by decide) (hts _ q829) (EV.cast hE (by decide +kernel)) hc9 hv9 hcl9 ?_
      refine lv_astore (lv' := [(4, .ref q9), (0, .ref (Z.2.2 0 0)), (1, .int p1), (2, .int p2), (3, .ref (Z.2.2 56 0))]) hx hb dL_submit_17 hl (by decide) rfl (fun ls hl => ?_)
      refine lv_iconst (v := (2 : Int32)) hx hb dL_submit_19 (by decide) ?_
      cases (show some _ = some _ from hk)
      exact we_i hx hb hr hlocks hP rfl hS dL_submit_20 (by decide) (by decide)
    have hk := it_f cz9 hk
    by_cases cz10 : E5 = "java/lang/IllegalStateException"
    · have hk := it_t cz10 hk
      subst cz10
      refine vx_catch hown [⟨0, 10, 13, 28⟩, ⟨0, 10, 17, 41⟩] ⟨0, 10, 21, 15⟩ [] (htab.trans rfl) (by intro z hz; simp only [List.mem_cons, List.not_mem_nil, or_false] at hz; rcases hz with rfl | rfl <;> first | exact Or.inr ⟨by decide, "java/lang/IndexOutOfBoundsException", hts _ q753, EV.nc hE (by decide +kernel)⟩ | exact Or.inr ⟨by decide, "java/lang/UnsupportedOperationException", hts _ q829, EV.nc hE (by decide +kernel)⟩) (by decide) (by decide) (hts _ q537) (EV.cast hE (by decide +kernel)) hc9 hv9 hcl9 ?_
      refine lv_astore (lv' := [(4, .ref q9), (0, .ref (Z.2.2 0 0)), (1, .int p1), (2, .int p2), (3, .ref (Z.2.2 56 0))]) hx hb dL_submit_21 hl (by decide) rfl (fun ls hl => ?_)
      refine lv_iconst (v := (3 : Int32)) hx hb dL_submit_23 (by decide) ?_
      cases (show some _ = some _ from hk)
      exact we_i hx hb hr hlocks hP rfl hS dL_submit_24 (by decide) (by decide)
    have hk := it_f cz10 hk
    exact nomatch (show none = some _ from hk)
  have hk := hn6 _ ho
  refine lv_i2l (v := (v1).toInt64) hx hb dL_submit_8 rfl ?_
  obtain ⟨O11, eO11, hk⟩ := lq_s hk
  refine wa_lastore_56 hx hb hZ hK hP hS (by decide) (by unfold vp_in; decide) dL_submit_9 (fun H locs hP hS => ?_)
  rw [← eO11] at hP
  refine lv_goto (tgt := 25) hx hb dL_submit_10 (by decide) ?_
  refine lv_iconst (v := (0 : Int32)) hx hb dL_submit_25 (by decide) ?_
  cases (show some _ = some _ from hk)
  exact we_i hx hb hr hlocks hP rfl hS dL_submit_26 (by decide) (by decide)
set_option maxHeartbeats 4000000 in
set_option maxRecDepth 100000 in
theorem k_L_of (l : Launch) (hfl : l.stackTraces = false) (Z : ZT) (hZ : wD Z) (X M O : SS) (p1 : Int32) (p2 : Int32) (Oz : SS) (r : Int32) (hf : f_L_of X O p1 p2 = some (Oz, r)) (sz : Nat) : vx_Met l yL_of ws_L_of rm_L_of (va_Pc [.ref (Z.2.2 0 0), .int p1, .int p2, .ref (Z.2.2 56 0)] (cP Z (X, M, O) sz)) (cQi Z (X, M, Oz) (.inl r) sz) (cX Z (X, M, Oz) (.inl r : Int32 ⊕ String) sz) 2 12 (wA Z sz) := by
  refine vx_ofWH (cc := cL_of) (maxL := 5) (ret := (some .int)) (hh := [(0, 10, 13, 28), (0, 10, 17, 13)]) (by decide) rfl ?_
  intro p e s m args below meth c s₁ B hml hv
  obtain ⟨hargs, hsz, hE, hP, hK⟩ := hv
  have hx := B.exec
  have hb := B.bytes
  have hr := B.returns
  have hts0 := atoms_spec (ws := ws_L_of) B.pre
  have hts : ∀ w ∈ lw_all, w.before args s = true := fun w h => hts0 w (List.mem_cons_of_mem _ h)
  have hown : s.vm.findClass RL = some m.cls := findClass_of_methodNamed B.named
  have hlocks := B.notSynchronized
  have htab := vx_table (x := yL_of) B (hts0 (.codeWith yL_of cL_of 5 (some .int) [(0, 10, 13, 28), (0, 10, 17, 13)]) List.mem_cons_self)
  subst hsz
  have hS : va_S (wA Z s.heap.size) s.heap s.heap [] := va_S.rf
  have hl := lv_entry ([.ref (Z.2.2 0 0), .int p1, .int p2, .ref (Z.2.2 56 0)]) (n := 5) (Nat.le_of_ble_eq_true rfl)
  have hen : entryFrame m args 5 = entryFrame m ([.ref (Z.2.2 0 0), .int p1, .int p2, .ref (Z.2.2 56 0)] : List Value).toArray 5 := by rw [hargs]
  rw [hen, lg_entry_eq]
  generalize (lg_sl ([.ref (Z.2.2 0 0), .int p1, .int p2, .ref (Z.2.2 56 0)]) ++ List.replicate (5 - (lg_sl ([.ref (Z.2.2 0 0), .int p1, .int p2, .ref (Z.2.2 56 0)])).length) Slot.unset).toArray = ls at hl ⊢
  have hl : lv_has ls 5 [(0, .ref (Z.2.2 0 0)), (1, .int p1), (2, .int p2), (3, .ref (Z.2.2 56 0))] := hl
  have hk := hf
  unfold f_L_of at hk
  refine lv_aload_n hx hb dL_of_0 rfl (lv_at hl 3 rfl) ?_
  refine lv_iconst (v := (0 : Int32)) hx hb dL_of_1 (by decide) ?_
  refine lv_aload_n hx hb dL_of_2 rfl (lv_at hl 0 rfl) ?_
  refine lv_iload_n hx hb dL_of_3 rfl (lv_at hl 1 rfl) ?_
  refine lv_iload_n hx hb dL_of_4 rfl (lv_at hl 2 rfl) ?_
  obtain ⟨o3, hf2, hn5, he6⟩ := e0_s hk
  refine wc_iV (rest := [.int (0 : Int32), .ref (Z.2.2 56 0)]) (As := [.int p1, .int p2]) ⟨hx, hb, hml, hown, hts⟩ (fun sz => k_X6_of l hfl Z hZ X M O p1 p2 o3 hf2 sz) (cw_RL_64 (args := args) (s := s) hts (Nat.le_of_ble_eq_true rfl) (Nat.le_of_ble_eq_true rfl)) hE hP hK hS (rv_0 hK hP (by decide)) rfl hl.1 rfl (Nat.le_of_ble_eq_true rfl) dL_of_5 ⟨Nat.le_of_ble_eq_true rfl, Nat.le_of_ble_eq_true rfl⟩ (fun E4 ce9 q9 H locs hoE hP hS hc9 hv9 hcl9 => ?_) (fun v1 H locs ho hP hS => ?_)
  · have hk := he6 _ hoE
    by_cases cz7 : E4 = "java/lang/IndexOutOfBoundsException"
    · have hk := it_t cz7 hk
      subst cz7
      refine vx_catch hown [] ⟨0, 10, 13, 28⟩ [⟨0, 10, 17, 13⟩] (htab.trans rfl) (fun z hz => nomatch hz) (by decide) (by decide) (hts _ q753) (EV.cast hE (by decide +kernel)) hc9 hv9 hcl9 ?_
      refine lv_astore (lv' := [(4, .ref q9), (0, .ref (Z.2.2 0 0)), (1, .int p1), (2, .int p2), (3, .ref (Z.2.2 56 0))]) hx hb dL_of_13 hl (by decide) rfl (fun ls hl => ?_)
      refine lv_iconst (v := (1 : Int32)) hx hb dL_of_15 (by decide) ?_
      cases (show some _ = some _ from hk)
      exact we_i hx hb hr hlocks hP rfl hS dL_of_16 (by decide) (by decide)
    have hk := it_f cz7 hk
    by_cases cz8 : E4 = "java/lang/IllegalArgumentException"
    · have hk := it_t cz8 hk
      subst cz8
      refine vx_catch hown [⟨0, 10, 13, 28⟩] ⟨0, 10, 17, 13⟩ [] (htab.trans rfl) (by intro z hz; simp only [List.mem_cons, List.not_mem_nil, or_false] at hz; rcases hz with rfl <;> first | exact Or.inr ⟨by decide, "java/lang/IndexOutOfBoundsException", hts _ q753, EV.nc hE (by decide +kernel)⟩) (by decide) (by decide) (hts _ q536) (EV.cast hE (by decide +kernel)) hc9 hv9 hcl9 ?_
      refine lv_astore (lv' := [(4, .ref q9), (0, .ref (Z.2.2 0 0)), (1, .int p1), (2, .int p2), (3, .ref (Z.2.2 56 0))]) hx hb dL_of_17 hl (by decide) rfl (fun ls hl => ?_)
      refine lv_iconst (v := (2 : Int32)) hx hb dL_of_19 (by decide) ?_
      cases (show some _ = some _ from hk)
      exact we_i hx hb hr hlocks hP rfl hS dL_of_20 (by decide) (by decide)
    have hk := it_f cz8 hk
    exact nomatch (show none = some _ from hk)
  have hk := hn5 _ ho
  refine lv_i2l (v := (v1).toInt64) hx hb dL_of_8 rfl ?_
  obtain ⟨O9, eO9, hk⟩ := lq_s hk
  refine wa_lastore_56 hx hb hZ hK hP hS (by decide) (by unfold vp_in; decide) dL_of_9 (fun H locs hP hS => ?_)
  rw [← eO9] at hP
  refine lv_goto (tgt := 21) hx hb dL_of_10 (by decide) ?_
  refine lv_iconst (v := (0 : Int32)) hx hb dL_of_21 (by decide) ?_
  cases (show some _ = some _ from hk)
  exact we_i hx hb hr hlocks hP rfl hS dL_of_22 (by decide) (by decide)
set_option maxHeartbeats 4000000 in
set_option maxRecDepth 100000 in
theorem k_L_state (l : Launch) (hfl : l.stackTraces = false) (Z : ZT) (hZ : wD Z) (X M O : SS) (p1 : Int32) (Oz : SS) (r : Int32) (hf : f_L_state X O p1 = some (Oz, r)) (sz : Nat) : vx_Met l yL_state ws_L_state rm_L_state (va_Pc [.ref (Z.2.2 0 0), .int p1, .ref (Z.2.2 56 0)] (cP Z (X, M, O) sz)) (cQi Z (X, M, Oz) (.inl r) sz) (cX Z (X, M, Oz) (.inl r : Int32 ⊕ String) sz) 1 6 (wA Z sz) := by
  refine vx_ofWH (cc := cL_state) (maxL := 4) (ret := (some .int)) (hh := [(0, 9, 12, 28)]) (by decide) rfl ?_
  intro p e s m args below meth c s₁ B hml hv
  obtain ⟨hargs, hsz, hE, hP, hK⟩ := hv
  have hx := B.exec
  have hb := B.bytes
  have hr := B.returns
  have hts0 := atoms_spec (ws := ws_L_state) B.pre
  have hts : ∀ w ∈ lw_all, w.before args s = true := fun w h => hts0 w (List.mem_cons_of_mem _ h)
  have hown : s.vm.findClass RL = some m.cls := findClass_of_methodNamed B.named
  have hlocks := B.notSynchronized
  have htab := vx_table (x := yL_state) B (hts0 (.codeWith yL_state cL_state 4 (some .int) [(0, 9, 12, 28)]) List.mem_cons_self)
  subst hsz
  have hS : va_S (wA Z s.heap.size) s.heap s.heap [] := va_S.rf
  have hl := lv_entry ([.ref (Z.2.2 0 0), .int p1, .ref (Z.2.2 56 0)]) (n := 4) (Nat.le_of_ble_eq_true rfl)
  have hen : entryFrame m args 4 = entryFrame m ([.ref (Z.2.2 0 0), .int p1, .ref (Z.2.2 56 0)] : List Value).toArray 4 := by rw [hargs]
  rw [hen, lg_entry_eq]
  generalize (lg_sl ([.ref (Z.2.2 0 0), .int p1, .ref (Z.2.2 56 0)]) ++ List.replicate (4 - (lg_sl ([.ref (Z.2.2 0 0), .int p1, .ref (Z.2.2 56 0)])).length) Slot.unset).toArray = ls at hl ⊢
  have hl : lv_has ls 4 [(0, .ref (Z.2.2 0 0)), (1, .int p1), (2, .ref (Z.2.2 56 0))] := hl
  have hk := hf
  unfold f_L_state at hk
  refine lv_aload_n hx hb dL_state_0 rfl (lv_at hl 2 rfl) ?_
  refine lv_iconst (v := (0 : Int32)) hx hb dL_state_1 (by decide) ?_
  refine lv_aload_n hx hb dL_state_2 rfl (lv_at hl 0 rfl) ?_
  refine lv_iload_n hx hb dL_state_3 rfl (lv_at hl 1 rfl) ?_
  obtain ⟨o3, hf2, hn5, he6⟩ := e0_s hk
  refine wc_iV (rest := [.int (0 : Int32), .ref (Z.2.2 56 0)]) (As := [.int p1]) ⟨hx, hb, hml, hown, hts⟩ (fun sz => k_X6_state l hfl Z hZ X M O p1 o3 hf2 sz) (cw_RL_68 (args := args) (s := s) hts (Nat.le_of_ble_eq_true rfl) (Nat.le_of_ble_eq_true rfl)) hE hP hK hS (rv_0 hK hP (by decide)) rfl hl.1 rfl (Nat.le_of_ble_eq_true rfl) dL_state_4 ⟨Nat.le_of_ble_eq_true rfl, Nat.le_of_ble_eq_true rfl⟩ (fun E4 ce9 q9 H locs hoE hP hS hc9 hv9 hcl9 => ?_) (fun v1 H locs ho hP hS => ?_)
  · have hk := he6 _ hoE
    by_cases cz7 : E4 = "java/lang/IndexOutOfBoundsException"
    · have hk := it_t cz7 hk
      subst cz7
      refine vx_catch hown [] ⟨0, 9, 12, 28⟩ [] (htab.trans rfl) (fun z hz => nomatch hz) (by decide) (by decide) (hts _ q753) (EV.cast hE (by decide +kernel)) hc9 hv9 hcl9 ?_
      refine lv_astore_n (lv' := [(3, .ref q9), (0, .ref (Z.2.2 0 0)), (1, .int p1), (2, .ref (Z.2.2 56 0))]) hx hb dL_state_12 rfl hl (by decide) rfl (fun ls hl => ?_)
      refine lv_iconst (v := (1 : Int32)) hx hb dL_state_13 (by decide) ?_
      cases (show some _ = some _ from hk)
      exact we_i hx hb hr hlocks hP rfl hS dL_state_14 (by decide) (by decide)
    have hk := it_f cz7 hk
    exact nomatch (show none = some _ from hk)
  have hk := hn5 _ ho
  refine lv_i2l (v := (v1).toInt64) hx hb dL_state_7 rfl ?_
  obtain ⟨O8, eO8, hk⟩ := lq_s hk
  refine wa_lastore_56 hx hb hZ hK hP hS (by decide) (by unfold vp_in; decide) dL_state_8 (fun H locs hP hS => ?_)
  rw [← eO8] at hP
  refine lv_goto (tgt := 15) hx hb dL_state_9 (by decide) ?_
  refine lv_iconst (v := (0 : Int32)) hx hb dL_state_15 (by decide) ?_
  cases (show some _ = some _ from hk)
  exact we_i hx hb hr hlocks hP rfl hS dL_state_16 (by decide) (by decide)
set_option maxHeartbeats 4000000 in
set_option maxRecDepth 100000 in
theorem k_L_sum (l : Launch) (hfl : l.stackTraces = false) (Z : ZT) (hZ : wD Z) (X M O : SS) (p1 : Int32) (Oz : SS) (r : Int32) (hf : f_L_sum X O p1 = some (Oz, r)) (sz : Nat) : vx_Met l yL_sum ws_L_sum rm_L_sum (va_Pc [.ref (Z.2.2 0 0), .int p1, .ref (Z.2.2 56 0)] (cP Z (X, M, O) sz)) (cQi Z (X, M, Oz) (.inl r) sz) (cX Z (X, M, Oz) (.inl r : Int32 ⊕ String) sz) 1 6 (wA Z sz) := by
  refine vx_ofWH (cc := cL_sum) (maxL := 4) (ret := (some .int)) (hh := [(0, 8, 11, 28)]) (by decide) rfl ?_
  intro p e s m args below meth c s₁ B hml hv
  obtain ⟨hargs, hsz, hE, hP, hK⟩ := hv
  have hx := B.exec
  have hb := B.bytes
  have hr := B.returns
  have hts0 := atoms_spec (ws := ws_L_sum) B.pre
  have hts : ∀ w ∈ lw_all, w.before args s = true := fun w h => hts0 w (List.mem_cons_of_mem _ h)
  have hown : s.vm.findClass RL = some m.cls := findClass_of_methodNamed B.named
  have hlocks := B.notSynchronized
  have htab := vx_table (x := yL_sum) B (hts0 (.codeWith yL_sum cL_sum 4 (some .int) [(0, 8, 11, 28)]) List.mem_cons_self)
  subst hsz
  have hS : va_S (wA Z s.heap.size) s.heap s.heap [] := va_S.rf
  have hl := lv_entry ([.ref (Z.2.2 0 0), .int p1, .ref (Z.2.2 56 0)]) (n := 4) (Nat.le_of_ble_eq_true rfl)
  have hen : entryFrame m args 4 = entryFrame m ([.ref (Z.2.2 0 0), .int p1, .ref (Z.2.2 56 0)] : List Value).toArray 4 := by rw [hargs]
  rw [hen, lg_entry_eq]
  generalize (lg_sl ([.ref (Z.2.2 0 0), .int p1, .ref (Z.2.2 56 0)]) ++ List.replicate (4 - (lg_sl ([.ref (Z.2.2 0 0), .int p1, .ref (Z.2.2 56 0)])).length) Slot.unset).toArray = ls at hl ⊢
  have hl : lv_has ls 4 [(0, .ref (Z.2.2 0 0)), (1, .int p1), (2, .ref (Z.2.2 56 0))] := hl
  have hk := hf
  unfold f_L_sum at hk
  refine lv_aload_n hx hb dL_sum_0 rfl (lv_at hl 2 rfl) ?_
  refine lv_iconst (v := (0 : Int32)) hx hb dL_sum_1 (by decide) ?_
  refine lv_aload_n hx hb dL_sum_2 rfl (lv_at hl 0 rfl) ?_
  refine lv_iload_n hx hb dL_sum_3 rfl (lv_at hl 1 rfl) ?_
  obtain ⟨o3, hf2, hn5, he6⟩ := e0_s hk
  refine wc_lV (rest := [.int (0 : Int32), .ref (Z.2.2 56 0)]) (As := [.int p1]) ⟨hx, hb, hml, hown, hts⟩ (fun sz => k_X6_sum l hfl Z hZ X M O p1 o3 hf2 sz) (cw_RL_72 (args := args) (s := s) hts (Nat.le_of_ble_eq_true rfl) (Nat.le_of_ble_eq_true rfl)) hE hP hK hS (rv_0 hK hP (by decide)) rfl hl.1 rfl (Nat.le_of_ble_eq_true rfl) dL_sum_4 ⟨Nat.le_of_ble_eq_true rfl, Nat.le_of_ble_eq_true rfl⟩ (fun E4 ce9 q9 H locs hoE hP hS hc9 hv9 hcl9 => ?_) (fun v1 H locs ho hP hS => ?_)
  · have hk := he6 _ hoE
    by_cases cz7 : E4 = "java/lang/IndexOutOfBoundsException"
    · have hk := it_t cz7 hk
      subst cz7
      refine vx_catch hown [] ⟨0, 8, 11, 28⟩ [] (htab.trans rfl) (fun z hz => nomatch hz) (by decide) (by decide) (hts _ q753) (EV.cast hE (by decide +kernel)) hc9 hv9 hcl9 ?_
      refine lv_astore_n (lv' := [(3, .ref q9), (0, .ref (Z.2.2 0 0)), (1, .int p1), (2, .ref (Z.2.2 56 0))]) hx hb dL_sum_11 rfl hl (by decide) rfl (fun ls hl => ?_)
      refine lv_iconst (v := (1 : Int32)) hx hb dL_sum_12 (by decide) ?_
      cases (show some _ = some _ from hk)
      exact we_i hx hb hr hlocks hP rfl hS dL_sum_13 (by decide) (by decide)
    have hk := it_f cz7 hk
    exact nomatch (show none = some _ from hk)
  have hk := hn5 _ ho
  obtain ⟨O8, eO8, hk⟩ := lq_s hk
  refine wa_lastore_56 hx hb hZ hK hP hS (by decide) (by unfold vp_in; decide) dL_sum_7 (fun H locs hP hS => ?_)
  rw [← eO8] at hP
  refine lv_goto (tgt := 14) hx hb dL_sum_8 (by decide) ?_
  refine lv_iconst (v := (0 : Int32)) hx hb dL_sum_14 (by decide) ?_
  cases (show some _ = some _ from hk)
  exact we_i hx hb hr hlocks hP rfl hS dL_sum_15 (by decide) (by decide)
set_option maxHeartbeats 4000000 in
set_option maxRecDepth 100000 in
theorem k_L_steps (l : Launch) (hfl : l.stackTraces = false) (Z : ZT) (hZ : wD Z) (X M O : SS) (p1 : Int32) (p2 : Int32) (Xz : SS) (Oz : SS) (r : Int32) (hf : f_L_steps X O p1 p2 = some (Xz, Oz, r)) (sz : Nat) : vx_Met l yL_steps ws_L_steps rm_L_steps (va_Pc [.ref (Z.2.2 0 0), .int p1, .int p2, .ref (Z.2.2 56 0)] (cP Z (X, M, O) sz)) (cQi Z (Xz, M, Oz) (.inl r) sz) (cX Z (Xz, M, Oz) (.inl r : Int32 ⊕ String) sz) 3 18 (wA Z sz) := by
  refine vx_ofWH (cc := cL_steps) (maxL := 5) (ret := (some .int)) (hh := [(0, 10, 13, 28), (0, 10, 17, 47)]) (by decide) rfl ?_
  intro p e s m args below meth c s₁ B hml hv
  obtain ⟨hargs, hsz, hE, hP, hK⟩ := hv
  have hx := B.exec
  have hb := B.bytes
  have hr := B.returns
  have hts0 := atoms_spec (ws := ws_L_steps) B.pre
  have hts : ∀ w ∈ lw_all, w.before args s = true := fun w h => hts0 w (List.mem_cons_of_mem _ h)
  have hown : s.vm.findClass RL = some m.cls := findClass_of_methodNamed B.named
  have hlocks := B.notSynchronized
  have htab := vx_table (x := yL_steps) B (hts0 (.codeWith yL_steps cL_steps 5 (some .int) [(0, 10, 13, 28), (0, 10, 17, 47)]) List.mem_cons_self)
  subst hsz
  have hS : va_S (wA Z s.heap.size) s.heap s.heap [] := va_S.rf
  have hl := lv_entry ([.ref (Z.2.2 0 0), .int p1, .int p2, .ref (Z.2.2 56 0)]) (n := 5) (Nat.le_of_ble_eq_true rfl)
  have hen : entryFrame m args 5 = entryFrame m ([.ref (Z.2.2 0 0), .int p1, .int p2, .ref (Z.2.2 56 0)] : List Value).toArray 5 := by rw [hargs]
  rw [hen, lg_entry_eq]
  generalize (lg_sl ([.ref (Z.2.2 0 0), .int p1, .int p2, .ref (Z.2.2 56 0)]) ++ List.replicate (5 - (lg_sl ([.ref (Z.2.2 0 0), .int p1, .int p2, .ref (Z.2.2 56 0)])).length) Slot.unset).toArray = ls at hl ⊢
  have hl : lv_has ls 5 [(0, .ref (Z.2.2 0 0)), (1, .int p1), (2, .int p2), (3, .ref (Z.2.2 56 0))] := hl
  have hk := hf
  unfold f_L_steps at hk
  refine lv_aload_n hx hb dL_steps_0 rfl (lv_at hl 3 rfl) ?_
  refine lv_iconst (v := (0 : Int32)) hx hb dL_steps_1 (by decide) ?_
  refine lv_aload_n hx hb dL_steps_2 rfl (lv_at hl 0 rfl) ?_
  refine lv_iload_n hx hb dL_steps_3 rfl (lv_at hl 1 rfl) ?_
  refine lv_iload_n hx hb dL_steps_4 rfl (lv_at hl 2 rfl) ?_
  obtain ⟨X2, o4, hf3, hn6, he7⟩ := e1_s hk
  refine wc_iV (rest := [.int (0 : Int32), .ref (Z.2.2 56 0)]) (As := [.int p1, .int p2]) ⟨hx, hb, hml, hown, hts⟩ (fun sz => k_X6_steps l hfl Z hZ X M O p1 p2 X2 o4 hf3 sz) (cw_RL_76 (args := args) (s := s) hts (Nat.le_of_ble_eq_true rfl) (Nat.le_of_ble_eq_true rfl)) hE hP hK hS (rv_0 hK hP (by decide)) rfl hl.1 rfl (Nat.le_of_ble_eq_true rfl) dL_steps_5 ⟨Nat.le_of_ble_eq_true rfl, Nat.le_of_ble_eq_true rfl⟩ (fun E5 ce9 q9 H locs hoE hP hS hc9 hv9 hcl9 => ?_) (fun v1 H locs ho hP hS => ?_)
  · have hk := he7 _ hoE
    by_cases cz8 : E5 = "java/lang/IndexOutOfBoundsException"
    · have hk := it_t cz8 hk
      subst cz8
      refine vx_catch hown [] ⟨0, 10, 13, 28⟩ [⟨0, 10, 17, 47⟩] (htab.trans rfl) (fun z hz => nomatch hz) (by decide) (by decide) (hts _ q753) (EV.cast hE (by decide +kernel)) hc9 hv9 hcl9 ?_
      refine lv_astore (lv' := [(4, .ref q9), (0, .ref (Z.2.2 0 0)), (1, .int p1), (2, .int p2), (3, .ref (Z.2.2 56 0))]) hx hb dL_steps_13 hl (by decide) rfl (fun ls hl => ?_)
      refine lv_iconst (v := (1 : Int32)) hx hb dL_steps_15 (by decide) ?_
      cases (show some _ = some _ from hk)
      exact we_i hx hb hr hlocks hP rfl hS dL_steps_16 (by decide) (by decide)
    have hk := it_f cz8 hk
    by_cases cz9 : E5 = "java/util/NoSuchElementException"
    · have hk := it_t cz9 hk
      subst cz9
      refine vx_catch hown [⟨0, 10, 13, 28⟩] ⟨0, 10, 17, 47⟩ [] (htab.trans rfl) (by intro z hz; simp only [List.mem_cons, List.not_mem_nil, or_false] at hz; rcases hz with rfl <;> first | exact Or.inr ⟨by decide, "java/lang/IndexOutOfBoundsException", hts _ q753, EV.nc hE (by decide +kernel)⟩) (by decide) (by decide) (hts _ q857) (EV.cast hE (by decide +kernel)) hc9 hv9 hcl9 ?_
      refine lv_astore (lv' := [(4, .ref q9), (0, .ref (Z.2.2 0 0)), (1, .int p1), (2, .int p2), (3, .ref (Z.2.2 56 0))]) hx hb dL_steps_17 hl (by decide) rfl (fun ls hl => ?_)
      refine lv_iconst (v := (2 : Int32)) hx hb dL_steps_19 (by decide) ?_
      cases (show some _ = some _ from hk)
      exact we_i hx hb hr hlocks hP rfl hS dL_steps_20 (by decide) (by decide)
    have hk := it_f cz9 hk
    exact nomatch (show none = some _ from hk)
  have hk := hn6 _ ho
  refine lv_i2l (v := (v1).toInt64) hx hb dL_steps_8 rfl ?_
  obtain ⟨O10, eO10, hk⟩ := lq_s hk
  refine wa_lastore_56 hx hb hZ hK hP hS (by decide) (by unfold vp_in; decide) dL_steps_9 (fun H locs hP hS => ?_)
  rw [← eO10] at hP
  refine lv_goto (tgt := 21) hx hb dL_steps_10 (by decide) ?_
  refine lv_iconst (v := (0 : Int32)) hx hb dL_steps_21 (by decide) ?_
  cases (show some _ = some _ from hk)
  exact we_i hx hb hr hlocks hP rfl hS dL_steps_22 (by decide) (by decide)
set_option maxHeartbeats 4000000 in
set_option maxRecDepth 100000 in
theorem k_L_hasBody (l : Launch) (hfl : l.stackTraces = false) (Z : ZT) (hZ : wD Z) (X M O : SS) (p1 : Int32) (Oz : SS) (r : Int32) (hf : f_L_hasBody X O p1 = some (Oz, r)) (sz : Nat) : vx_Met l yL_hasBody ws_L_hasBody rm_L_hasBody (va_Pc [.ref (Z.2.2 0 0), .int p1, .ref (Z.2.2 56 0)] (cP Z (X, M, O) sz)) (cQi Z (X, M, Oz) (.inl r) sz) (cX Z (X, M, Oz) (.inl r : Int32 ⊕ String) sz) 1 6 (wA Z sz) := by
  refine vx_ofWH (cc := cL_hasBody) (maxL := 4) (ret := (some .int)) (hh := [(0, 16, 19, 28)]) (by decide) rfl ?_
  intro p e s m args below meth c s₁ B hml hv
  obtain ⟨hargs, hsz, hE, hP, hK⟩ := hv
  have hx := B.exec
  have hb := B.bytes
  have hr := B.returns
  have hts0 := atoms_spec (ws := ws_L_hasBody) B.pre
  have hts : ∀ w ∈ lw_all, w.before args s = true := fun w h => hts0 w (List.mem_cons_of_mem _ h)
  have hown : s.vm.findClass RL = some m.cls := findClass_of_methodNamed B.named
  have hlocks := B.notSynchronized
  have htab := vx_table (x := yL_hasBody) B (hts0 (.codeWith yL_hasBody cL_hasBody 4 (some .int) [(0, 16, 19, 28)]) List.mem_cons_self)
  subst hsz
  have hS : va_S (wA Z s.heap.size) s.heap s.heap [] := va_S.rf
  have hl := lv_entry ([.ref (Z.2.2 0 0), .int p1, .ref (Z.2.2 56 0)]) (n := 4) (Nat.le_of_ble_eq_true rfl)
  have hen : entryFrame m args 4 = entryFrame m ([.ref (Z.2.2 0 0), .int p1, .ref (Z.2.2 56 0)] : List Value).toArray 4 := by rw [hargs]
  rw [hen, lg_entry_eq]
  generalize (lg_sl ([.ref (Z.2.2 0 0), .int p1, .ref (Z.2.2 56 0)]) ++ List.replicate (4 - (lg_sl ([.ref (Z.2.2 0 0), .int p1, .ref (Z.2.2 56 0)])).length) Slot.unset).toArray = ls at hl ⊢
  have hl : lv_has ls 4 [(0, .ref (Z.2.2 0 0)), (1, .int p1), (2, .ref (Z.2.2 56 0))] := hl
  have hk := hf
  unfold f_L_hasBody at hk
  refine lv_aload_n hx hb dL_hasBody_0 rfl (lv_at hl 2 rfl) ?_
  refine lv_iconst (v := (0 : Int32)) hx hb dL_hasBody_1 (by decide) ?_
  refine lv_aload_n hx hb dL_hasBody_2 rfl (lv_at hl 0 rfl) ?_
  refine lv_iload_n hx hb dL_hasBody_3 rfl (lv_at hl 1 rfl) ?_
  obtain ⟨o3, hf2, hn5, he6⟩ := e0_s hk
  refine wc_iV (rest := [.int (0 : Int32), .ref (Z.2.2 56 0)]) (As := [.int p1]) ⟨hx, hb, hml, hown, hts⟩ (fun sz => k_X6_hasBody l hfl Z hZ X M O p1 o3 hf2 sz) (cw_RL_79 (args := args) (s := s) hts (Nat.le_of_ble_eq_true rfl) (Nat.le_of_ble_eq_true rfl)) hE hP hK hS (rv_0 hK hP (by decide)) rfl hl.1 rfl (Nat.le_of_ble_eq_true rfl) dL_hasBody_4 ⟨Nat.le_of_ble_eq_true rfl, Nat.le_of_ble_eq_true rfl⟩ (fun E4 ce9 q9 H locs hoE hP hS hc9 hv9 hcl9 => ?_) (fun v1 H locs ho hP hS => ?_)
  · have hk := he6 _ hoE
    by_cases cz7 : E4 = "java/lang/IndexOutOfBoundsException"
    · have hk := it_t cz7 hk
      subst cz7
      refine vx_catch hown [] ⟨0, 16, 19, 28⟩ [] (htab.trans rfl) (fun z hz => nomatch hz) (by decide) (by decide) (hts _ q753) (EV.cast hE (by decide +kernel)) hc9 hv9 hcl9 ?_
      refine lv_astore_n (lv' := [(3, .ref q9), (0, .ref (Z.2.2 0 0)), (1, .int p1), (2, .ref (Z.2.2 56 0))]) hx hb dL_hasBody_19 rfl hl (by decide) rfl (fun ls hl => ?_)
      refine lv_iconst (v := (1 : Int32)) hx hb dL_hasBody_20 (by decide) ?_
      cases (show some _ = some _ from hk)
      exact we_i hx hb hr hlocks hP rfl hS dL_hasBody_21 (by decide) (by decide)
    have hk := it_f cz7 hk
    exact nomatch (show none = some _ from hk)
  have hk := hn5 _ ho
  refine lv_if_eq (tgt := 14) hx hb dL_hasBody_7 (by decide) (fun cz8 => ?_) (fun cz8 => ?_)
  · have hk := it_t cz8 hk
    refine lv_lconst (v := (0 : Int64)) hx hb dL_hasBody_14 (by decide) ?_
    obtain ⟨O9, eO9, hk⟩ := lq_s hk
    refine wa_lastore_56 hx hb hZ hK hP hS (by decide) (by unfold vp_in; decide) dL_hasBody_15 (fun H locs hP hS => ?_)
    rw [← eO9] at hP
    refine lv_goto (tgt := 22) hx hb dL_hasBody_16 (by decide) ?_
    refine lv_iconst (v := (0 : Int32)) hx hb dL_hasBody_22 (by decide) ?_
    cases (show some _ = some _ from hk)
    exact we_i hx hb hr hlocks hP rfl hS dL_hasBody_23 (by decide) (by decide)
  · have hk := it_f cz8 hk
    refine lv_lconst (v := (1 : Int64)) hx hb dL_hasBody_10 (by decide) ?_
    refine lv_goto (tgt := 15) hx hb dL_hasBody_11 (by decide) ?_
    obtain ⟨O10, eO10, hk⟩ := lq_s hk
    refine wa_lastore_56 hx hb hZ hK hP hS (by decide) (by unfold vp_in; decide) dL_hasBody_15 (fun H locs hP hS => ?_)
    rw [← eO10] at hP
    refine lv_goto (tgt := 22) hx hb dL_hasBody_16 (by decide) ?_
    refine lv_iconst (v := (0 : Int32)) hx hb dL_hasBody_22 (by decide) ?_
    cases (show some _ = some _ from hk)
    exact we_i hx hb hr hlocks hP rfl hS dL_hasBody_23 (by decide) (by decide)
set_option maxHeartbeats 4000000 in
set_option maxRecDepth 100000 in
theorem k_L_letter (l : Launch) (hfl : l.stackTraces = false) (Z : ZT) (hZ : wD Z) (X M O : SS) (p1 : Int32) (p2 : Int32) (Oz : SS) (r : Int32) (hf : f_L_letter X O p1 p2 = some (Oz, r)) (sz : Nat) : vx_Met l yL_letter ws_L_letter rm_L_letter (va_Pc [.ref (Z.2.2 0 0), .int p1, .int p2, .ref (Z.2.2 56 0)] (cP Z (X, M, O) sz)) (cQi Z (X, M, Oz) (.inl r) sz) (cX Z (X, M, Oz) (.inl r : Int32 ⊕ String) sz) 2 12 (wA Z sz) := by
  refine vx_ofWH (cc := cL_letter) (maxL := 5) (ret := (some .int)) (hh := [(0, 10, 13, 28), (0, 10, 17, 47)]) (by decide) rfl ?_
  intro p e s m args below meth c s₁ B hml hv
  obtain ⟨hargs, hsz, hE, hP, hK⟩ := hv
  have hx := B.exec
  have hb := B.bytes
  have hr := B.returns
  have hts0 := atoms_spec (ws := ws_L_letter) B.pre
  have hts : ∀ w ∈ lw_all, w.before args s = true := fun w h => hts0 w (List.mem_cons_of_mem _ h)
  have hown : s.vm.findClass RL = some m.cls := findClass_of_methodNamed B.named
  have hlocks := B.notSynchronized
  have htab := vx_table (x := yL_letter) B (hts0 (.codeWith yL_letter cL_letter 5 (some .int) [(0, 10, 13, 28), (0, 10, 17, 47)]) List.mem_cons_self)
  subst hsz
  have hS : va_S (wA Z s.heap.size) s.heap s.heap [] := va_S.rf
  have hl := lv_entry ([.ref (Z.2.2 0 0), .int p1, .int p2, .ref (Z.2.2 56 0)]) (n := 5) (Nat.le_of_ble_eq_true rfl)
  have hen : entryFrame m args 5 = entryFrame m ([.ref (Z.2.2 0 0), .int p1, .int p2, .ref (Z.2.2 56 0)] : List Value).toArray 5 := by rw [hargs]
  rw [hen, lg_entry_eq]
  generalize (lg_sl ([.ref (Z.2.2 0 0), .int p1, .int p2, .ref (Z.2.2 56 0)]) ++ List.replicate (5 - (lg_sl ([.ref (Z.2.2 0 0), .int p1, .int p2, .ref (Z.2.2 56 0)])).length) Slot.unset).toArray = ls at hl ⊢
  have hl : lv_has ls 5 [(0, .ref (Z.2.2 0 0)), (1, .int p1), (2, .int p2), (3, .ref (Z.2.2 56 0))] := hl
  have hk := hf
  unfold f_L_letter at hk
  refine lv_aload_n hx hb dL_letter_0 rfl (lv_at hl 3 rfl) ?_
  refine lv_iconst (v := (0 : Int32)) hx hb dL_letter_1 (by decide) ?_
  refine lv_aload_n hx hb dL_letter_2 rfl (lv_at hl 0 rfl) ?_
  refine lv_iload_n hx hb dL_letter_3 rfl (lv_at hl 1 rfl) ?_
  refine lv_iload_n hx hb dL_letter_4 rfl (lv_at hl 2 rfl) ?_
  obtain ⟨o3, hf2, hn5, he6⟩ := e0_s hk
  refine wc_iV (rest := [.int (0 : Int32), .ref (Z.2.2 56 0)]) (As := [.int p1, .int p2]) ⟨hx, hb, hml, hown, hts⟩ (fun sz => k_X6_letter l hfl Z hZ X M O p1 p2 o3 hf2 sz) (cw_RL_83 (args := args) (s := s) hts (Nat.le_of_ble_eq_true rfl) (Nat.le_of_ble_eq_true rfl)) hE hP hK hS (rv_0 hK hP (by decide)) rfl hl.1 rfl (Nat.le_of_ble_eq_true rfl) dL_letter_5 ⟨Nat.le_of_ble_eq_true rfl, Nat.le_of_ble_eq_true rfl⟩ (fun E4 ce9 q9 H locs hoE hP hS hc9 hv9 hcl9 => ?_) (fun v1 H locs ho hP hS => ?_)
  · have hk := he6 _ hoE
    by_cases cz7 : E4 = "java/lang/IndexOutOfBoundsException"
    · have hk := it_t cz7 hk
      subst cz7
      refine vx_catch hown [] ⟨0, 10, 13, 28⟩ [⟨0, 10, 17, 47⟩] (htab.trans rfl) (fun z hz => nomatch hz) (by decide) (by decide) (hts _ q753) (EV.cast hE (by decide +kernel)) hc9 hv9 hcl9 ?_
      refine lv_astore (lv' := [(4, .ref q9), (0, .ref (Z.2.2 0 0)), (1, .int p1), (2, .int p2), (3, .ref (Z.2.2 56 0))]) hx hb dL_letter_13 hl (by decide) rfl (fun ls hl => ?_)
      refine lv_iconst (v := (1 : Int32)) hx hb dL_letter_15 (by decide) ?_
      cases (show some _ = some _ from hk)
      exact we_i hx hb hr hlocks hP rfl hS dL_letter_16 (by decide) (by decide)
    have hk := it_f cz7 hk
    by_cases cz8 : E4 = "java/util/NoSuchElementException"
    · have hk := it_t cz8 hk
      subst cz8
      refine vx_catch hown [⟨0, 10, 13, 28⟩] ⟨0, 10, 17, 47⟩ [] (htab.trans rfl) (by intro z hz; simp only [List.mem_cons, List.not_mem_nil, or_false] at hz; rcases hz with rfl <;> first | exact Or.inr ⟨by decide, "java/lang/IndexOutOfBoundsException", hts _ q753, EV.nc hE (by decide +kernel)⟩) (by decide) (by decide) (hts _ q857) (EV.cast hE (by decide +kernel)) hc9 hv9 hcl9 ?_
      refine lv_astore (lv' := [(4, .ref q9), (0, .ref (Z.2.2 0 0)), (1, .int p1), (2, .int p2), (3, .ref (Z.2.2 56 0))]) hx hb dL_letter_17 hl (by decide) rfl (fun ls hl => ?_)
      refine lv_iconst (v := (2 : Int32)) hx hb dL_letter_19 (by decide) ?_
      cases (show some _ = some _ from hk)
      exact we_i hx hb hr hlocks hP rfl hS dL_letter_20 (by decide) (by decide)
    have hk := it_f cz8 hk
    exact nomatch (show none = some _ from hk)
  have hk := hn5 _ ho
  refine lv_i2l (v := (v1).toInt64) hx hb dL_letter_8 rfl ?_
  obtain ⟨O9, eO9, hk⟩ := lq_s hk
  refine wa_lastore_56 hx hb hZ hK hP hS (by decide) (by unfold vp_in; decide) dL_letter_9 (fun H locs hP hS => ?_)
  rw [← eO9] at hP
  refine lv_goto (tgt := 21) hx hb dL_letter_10 (by decide) ?_
  refine lv_iconst (v := (0 : Int32)) hx hb dL_letter_21 (by decide) ?_
  cases (show some _ = some _ from hk)
  exact we_i hx hb hr hlocks hP rfl hS dL_letter_22 (by decide) (by decide)
set_option maxHeartbeats 4000000 in
set_option maxRecDepth 100000 in
theorem k_L_drop (l : Launch) (hfl : l.stackTraces = false) (Z : ZT) (hZ : wD Z) (X M O : SS) (p1 : Int32) (Xz : SS) (Oz : SS) (r : Int32) (hf : f_L_drop X O p1 = some (Xz, Oz, r)) (sz : Nat) : vx_Met l yL_drop ws_L_drop rm_L_drop (va_Pc [.ref (Z.2.2 0 0), .int p1, .ref (Z.2.2 56 0)] (cP Z (X, M, O) sz)) (cQi Z (Xz, M, Oz) (.inl r) sz) (cX Z (Xz, M, Oz) (.inl r : Int32 ⊕ String) sz) 2 12 (wA Z sz) := by
  refine vx_ofWH (cc := cL_drop) (maxL := 4) (ret := (some .int)) (hh := [(0, 9, 12, 28), (0, 9, 15, 41)]) (by decide) rfl ?_
  intro p e s m args below meth c s₁ B hml hv
  obtain ⟨hargs, hsz, hE, hP, hK⟩ := hv
  have hx := B.exec
  have hb := B.bytes
  have hr := B.returns
  have hts0 := atoms_spec (ws := ws_L_drop) B.pre
  have hts : ∀ w ∈ lw_all, w.before args s = true := fun w h => hts0 w (List.mem_cons_of_mem _ h)
  have hown : s.vm.findClass RL = some m.cls := findClass_of_methodNamed B.named
  have hlocks := B.notSynchronized
  have htab := vx_table (x := yL_drop) B (hts0 (.codeWith yL_drop cL_drop 4 (some .int) [(0, 9, 12, 28), (0, 9, 15, 41)]) List.mem_cons_self)
  subst hsz
  have hS : va_S (wA Z s.heap.size) s.heap s.heap [] := va_S.rf
  have hl := lv_entry ([.ref (Z.2.2 0 0), .int p1, .ref (Z.2.2 56 0)]) (n := 4) (Nat.le_of_ble_eq_true rfl)
  have hen : entryFrame m args 4 = entryFrame m ([.ref (Z.2.2 0 0), .int p1, .ref (Z.2.2 56 0)] : List Value).toArray 4 := by rw [hargs]
  rw [hen, lg_entry_eq]
  generalize (lg_sl ([.ref (Z.2.2 0 0), .int p1, .ref (Z.2.2 56 0)]) ++ List.replicate (4 - (lg_sl ([.ref (Z.2.2 0 0), .int p1, .ref (Z.2.2 56 0)])).length) Slot.unset).toArray = ls at hl ⊢
  have hl : lv_has ls 4 [(0, .ref (Z.2.2 0 0)), (1, .int p1), (2, .ref (Z.2.2 56 0))] := hl
  have hk := hf
  unfold f_L_drop at hk
  refine lv_aload_n hx hb dL_drop_0 rfl (lv_at hl 2 rfl) ?_
  refine lv_iconst (v := (0 : Int32)) hx hb dL_drop_1 (by decide) ?_
  refine lv_aload_n hx hb dL_drop_2 rfl (lv_at hl 0 rfl) ?_
  refine lv_iload_n hx hb dL_drop_3 rfl (lv_at hl 1 rfl) ?_
  obtain ⟨X2, o4, hf3, hn6, he7⟩ := e1_s hk
  refine wc_iV (rest := [.int (0 : Int32), .ref (Z.2.2 56 0)]) (As := [.int p1]) ⟨hx, hb, hml, hown, hts⟩ (fun sz => k_X6_drop l hfl Z hZ X M O p1 X2 o4 hf3 sz) (cw_RL_86 (args := args) (s := s) hts (Nat.le_of_ble_eq_true rfl) (Nat.le_of_ble_eq_true rfl)) hE hP hK hS (rv_0 hK hP (by decide)) rfl hl.1 rfl (Nat.le_of_ble_eq_true rfl) dL_drop_4 ⟨Nat.le_of_ble_eq_true rfl, Nat.le_of_ble_eq_true rfl⟩ (fun E5 ce9 q9 H locs hoE hP hS hc9 hv9 hcl9 => ?_) (fun v1 H locs ho hP hS => ?_)
  · have hk := he7 _ hoE
    by_cases cz8 : E5 = "java/lang/IndexOutOfBoundsException"
    · have hk := it_t cz8 hk
      subst cz8
      refine vx_catch hown [] ⟨0, 9, 12, 28⟩ [⟨0, 9, 15, 41⟩] (htab.trans rfl) (fun z hz => nomatch hz) (by decide) (by decide) (hts _ q753) (EV.cast hE (by decide +kernel)) hc9 hv9 hcl9 ?_
      refine lv_astore_n (lv' := [(3, .ref q9), (0, .ref (Z.2.2 0 0)), (1, .int p1), (2, .ref (Z.2.2 56 0))]) hx hb dL_drop_12 rfl hl (by decide) rfl (fun ls hl => ?_)
      refine lv_iconst (v := (1 : Int32)) hx hb dL_drop_13 (by decide) ?_
      cases (show some _ = some _ from hk)
      exact we_i hx hb hr hlocks hP rfl hS dL_drop_14 (by decide) (by decide)
    have hk := it_f cz8 hk
    by_cases cz9 : E5 = "java/lang/UnsupportedOperationException"
    · have hk := it_t cz9 hk
      subst cz9
      refine vx_catch hown [⟨0, 9, 12, 28⟩] ⟨0, 9, 15, 41⟩ [] (htab.trans rfl) (by intro z hz; simp only [List.mem_cons, List.not_mem_nil, or_false] at hz; rcases hz with rfl <;> first | exact Or.inr ⟨by decide, "java/lang/IndexOutOfBoundsException", hts _ q753, EV.nc hE (by decide +kernel)⟩) (by decide) (by decide) (hts _ q829) (EV.cast hE (by decide +kernel)) hc9 hv9 hcl9 ?_
      refine lv_astore_n (lv' := [(3, .ref q9), (0, .ref (Z.2.2 0 0)), (1, .int p1), (2, .ref (Z.2.2 56 0))]) hx hb dL_drop_15 rfl hl (by decide) rfl (fun ls hl => ?_)
      refine lv_iconst (v := (2 : Int32)) hx hb dL_drop_16 (by decide) ?_
      cases (show some _ = some _ from hk)
      exact we_i hx hb hr hlocks hP rfl hS dL_drop_17 (by decide) (by decide)
    have hk := it_f cz9 hk
    exact nomatch (show none = some _ from hk)
  have hk := hn6 _ ho
  refine lv_i2l (v := (v1).toInt64) hx hb dL_drop_7 rfl ?_
  obtain ⟨O10, eO10, hk⟩ := lq_s hk
  refine wa_lastore_56 hx hb hZ hK hP hS (by decide) (by unfold vp_in; decide) dL_drop_8 (fun H locs hP hS => ?_)
  rw [← eO10] at hP
  refine lv_goto (tgt := 18) hx hb dL_drop_9 (by decide) ?_
  refine lv_iconst (v := (0 : Int32)) hx hb dL_drop_18 (by decide) ?_
  cases (show some _ = some _ from hk)
  exact we_i hx hb hr hlocks hP rfl hS dL_drop_19 (by decide) (by decide)
set_option maxHeartbeats 4000000 in
set_option maxRecDepth 100000 in
theorem k_L_capacity (l : Launch) (hfl : l.stackTraces = false) (Z : ZT) (hZ : wD Z) (X M O : SS) (p1 : Int32) (Xz : SS) (Oz : SS) (r : Int32) (hf : f_L_capacity X O p1 = some (Xz, Oz, r)) (sz : Nat) : vx_Met l yL_capacity ws_L_capacity rm_L_capacity (va_Pc [.ref (Z.2.2 0 0), .int p1, .ref (Z.2.2 56 0)] (cP Z (X, M, O) sz)) (cQi Z (Xz, M, Oz) (.inl r) sz) (cX Z (Xz, M, Oz) (.inl r : Int32 ⊕ String) sz) 1 6 (wA Z sz) := by
  refine vx_ofWH (cc := cL_capacity) (maxL := 4) (ret := (some .int)) (hh := [(0, 9, 12, 13)]) (by decide) rfl ?_
  intro p e s m args below meth c s₁ B hml hv
  obtain ⟨hargs, hsz, hE, hP, hK⟩ := hv
  have hx := B.exec
  have hb := B.bytes
  have hr := B.returns
  have hts0 := atoms_spec (ws := ws_L_capacity) B.pre
  have hts : ∀ w ∈ lw_all, w.before args s = true := fun w h => hts0 w (List.mem_cons_of_mem _ h)
  have hown : s.vm.findClass RL = some m.cls := findClass_of_methodNamed B.named
  have hlocks := B.notSynchronized
  have htab := vx_table (x := yL_capacity) B (hts0 (.codeWith yL_capacity cL_capacity 4 (some .int) [(0, 9, 12, 13)]) List.mem_cons_self)
  subst hsz
  have hS : va_S (wA Z s.heap.size) s.heap s.heap [] := va_S.rf
  have hl := lv_entry ([.ref (Z.2.2 0 0), .int p1, .ref (Z.2.2 56 0)]) (n := 4) (Nat.le_of_ble_eq_true rfl)
  have hen : entryFrame m args 4 = entryFrame m ([.ref (Z.2.2 0 0), .int p1, .ref (Z.2.2 56 0)] : List Value).toArray 4 := by rw [hargs]
  rw [hen, lg_entry_eq]
  generalize (lg_sl ([.ref (Z.2.2 0 0), .int p1, .ref (Z.2.2 56 0)]) ++ List.replicate (4 - (lg_sl ([.ref (Z.2.2 0 0), .int p1, .ref (Z.2.2 56 0)])).length) Slot.unset).toArray = ls at hl ⊢
  have hl : lv_has ls 4 [(0, .ref (Z.2.2 0 0)), (1, .int p1), (2, .ref (Z.2.2 56 0))] := hl
  have hk := hf
  unfold f_L_capacity at hk
  refine lv_aload_n hx hb dL_capacity_0 rfl (lv_at hl 2 rfl) ?_
  refine lv_iconst (v := (0 : Int32)) hx hb dL_capacity_1 (by decide) ?_
  refine lv_aload_n hx hb dL_capacity_2 rfl (lv_at hl 0 rfl) ?_
  refine lv_iload_n hx hb dL_capacity_3 rfl (lv_at hl 1 rfl) ?_
  obtain ⟨X2, o4, hf3, hn6, he7⟩ := e1_s hk
  refine wc_iV (rest := [.int (0 : Int32), .ref (Z.2.2 56 0)]) (As := [.int p1]) ⟨hx, hb, hml, hown, hts⟩ (fun sz => k_X6_capacity l hfl Z hZ X M O p1 X2 o4 hf3 sz) (cw_RL_89 (args := args) (s := s) hts (Nat.le_of_ble_eq_true rfl) (Nat.le_of_ble_eq_true rfl)) hE hP hK hS (rv_0 hK hP (by decide)) rfl hl.1 rfl (Nat.le_of_ble_eq_true rfl) dL_capacity_4 ⟨Nat.le_of_ble_eq_true rfl, Nat.le_of_ble_eq_true rfl⟩ (fun E5 ce9 q9 H locs hoE hP hS hc9 hv9 hcl9 => ?_) (fun v1 H locs ho hP hS => ?_)
  · have hk := he7 _ hoE
    by_cases cz8 : E5 = "java/lang/IllegalArgumentException"
    · have hk := it_t cz8 hk
      subst cz8
      refine vx_catch hown [] ⟨0, 9, 12, 13⟩ [] (htab.trans rfl) (fun z hz => nomatch hz) (by decide) (by decide) (hts _ q536) (EV.cast hE (by decide +kernel)) hc9 hv9 hcl9 ?_
      refine lv_astore_n (lv' := [(3, .ref q9), (0, .ref (Z.2.2 0 0)), (1, .int p1), (2, .ref (Z.2.2 56 0))]) hx hb dL_capacity_12 rfl hl (by decide) rfl (fun ls hl => ?_)
      refine lv_iconst (v := (1 : Int32)) hx hb dL_capacity_13 (by decide) ?_
      cases (show some _ = some _ from hk)
      exact we_i hx hb hr hlocks hP rfl hS dL_capacity_14 (by decide) (by decide)
    have hk := it_f cz8 hk
    exact nomatch (show none = some _ from hk)
  have hk := hn6 _ ho
  refine lv_i2l (v := (v1).toInt64) hx hb dL_capacity_7 rfl ?_
  obtain ⟨O9, eO9, hk⟩ := lq_s hk
  refine wa_lastore_56 hx hb hZ hK hP hS (by decide) (by unfold vp_in; decide) dL_capacity_8 (fun H locs hP hS => ?_)
  rw [← eO9] at hP
  refine lv_goto (tgt := 15) hx hb dL_capacity_9 (by decide) ?_
  refine lv_iconst (v := (0 : Int32)) hx hb dL_capacity_15 (by decide) ?_
  cases (show some _ = some _ from hk)
  exact we_i hx hb hr hlocks hP rfl hS dL_capacity_16 (by decide) (by decide)
set_option maxHeartbeats 4000000 in
set_option maxRecDepth 100000 in
theorem k_L_read (l : Launch) (hfl : l.stackTraces = false) (Z : ZT) (hZ : wD Z) (X M O : SS) (p1 : Int32) (p2 : Int32) (Xz : SS) (Oz : SS) (r : Int32) (hf : f_L_read X O p1 p2 = some (Xz, Oz, r)) (sz : Nat) : vx_Met l yL_read ws_L_read rm_L_read (va_Pc [.ref (Z.2.2 0 0), .int p1, .int p2, .ref (Z.2.2 56 0)] (cP Z (X, M, O) sz)) (cQi Z (Xz, M, Oz) (.inl r) sz) (cX Z (Xz, M, Oz) (.inl r : Int32 ⊕ String) sz) 3 18 (wA Z sz) := by
  refine vx_ofWH (cc := cL_read) (maxL := 5) (ret := (some .int)) (hh := [(0, 10, 13, 28), (0, 10, 17, 47)]) (by decide) rfl ?_
  intro p e s m args below meth c s₁ B hml hv
  obtain ⟨hargs, hsz, hE, hP, hK⟩ := hv
  have hx := B.exec
  have hb := B.bytes
  have hr := B.returns
  have hts0 := atoms_spec (ws := ws_L_read) B.pre
  have hts : ∀ w ∈ lw_all, w.before args s = true := fun w h => hts0 w (List.mem_cons_of_mem _ h)
  have hown : s.vm.findClass RL = some m.cls := findClass_of_methodNamed B.named
  have hlocks := B.notSynchronized
  have htab := vx_table (x := yL_read) B (hts0 (.codeWith yL_read cL_read 5 (some .int) [(0, 10, 13, 28), (0, 10, 17, 47)]) List.mem_cons_self)
  subst hsz
  have hS : va_S (wA Z s.heap.size) s.heap s.heap [] := va_S.rf
  have hl := lv_entry ([.ref (Z.2.2 0 0), .int p1, .int p2, .ref (Z.2.2 56 0)]) (n := 5) (Nat.le_of_ble_eq_true rfl)
  have hen : entryFrame m args 5 = entryFrame m ([.ref (Z.2.2 0 0), .int p1, .int p2, .ref (Z.2.2 56 0)] : List Value).toArray 5 := by rw [hargs]
  rw [hen, lg_entry_eq]
  generalize (lg_sl ([.ref (Z.2.2 0 0), .int p1, .int p2, .ref (Z.2.2 56 0)]) ++ List.replicate (5 - (lg_sl ([.ref (Z.2.2 0 0), .int p1, .int p2, .ref (Z.2.2 56 0)])).length) Slot.unset).toArray = ls at hl ⊢
  have hl : lv_has ls 5 [(0, .ref (Z.2.2 0 0)), (1, .int p1), (2, .int p2), (3, .ref (Z.2.2 56 0))] := hl
  have hk := hf
  unfold f_L_read at hk
  refine lv_aload_n hx hb dL_read_0 rfl (lv_at hl 3 rfl) ?_
  refine lv_iconst (v := (0 : Int32)) hx hb dL_read_1 (by decide) ?_
  refine lv_aload_n hx hb dL_read_2 rfl (lv_at hl 0 rfl) ?_
  refine lv_iload_n hx hb dL_read_3 rfl (lv_at hl 1 rfl) ?_
  refine lv_iload_n hx hb dL_read_4 rfl (lv_at hl 2 rfl) ?_
  obtain ⟨X2, o4, hf3, hn6, he7⟩ := e1_s hk
  refine wc_iV (rest := [.int (0 : Int32), .ref (Z.2.2 56 0)]) (As := [.int p1, .int p2]) ⟨hx, hb, hml, hown, hts⟩ (fun sz => k_X6_read l hfl Z hZ X M O p1 p2 X2 o4 hf3 sz) (cw_RL_92 (args := args) (s := s) hts (Nat.le_of_ble_eq_true rfl) (Nat.le_of_ble_eq_true rfl)) hE hP hK hS (rv_0 hK hP (by decide)) rfl hl.1 rfl (Nat.le_of_ble_eq_true rfl) dL_read_5 ⟨Nat.le_of_ble_eq_true rfl, Nat.le_of_ble_eq_true rfl⟩ (fun E5 ce9 q9 H locs hoE hP hS hc9 hv9 hcl9 => ?_) (fun v1 H locs ho hP hS => ?_)
  · have hk := he7 _ hoE
    by_cases cz8 : E5 = "java/lang/IndexOutOfBoundsException"
    · have hk := it_t cz8 hk
      subst cz8
      refine vx_catch hown [] ⟨0, 10, 13, 28⟩ [⟨0, 10, 17, 47⟩] (htab.trans rfl) (fun z hz => nomatch hz) (by decide) (by decide) (hts _ q753) (EV.cast hE (by decide +kernel)) hc9 hv9 hcl9 ?_
      refine lv_astore (lv' := [(4, .ref q9), (0, .ref (Z.2.2 0 0)), (1, .int p1), (2, .int p2), (3, .ref (Z.2.2 56 0))]) hx hb dL_read_13 hl (by decide) rfl (fun ls hl => ?_)
      refine lv_iconst (v := (1 : Int32)) hx hb dL_read_15 (by decide) ?_
      cases (show some _ = some _ from hk)
      exact we_i hx hb hr hlocks hP rfl hS dL_read_16 (by decide) (by decide)
    have hk := it_f cz8 hk
    by_cases cz9 : E5 = "java/util/NoSuchElementException"
    · have hk := it_t cz9 hk
      subst cz9
      refine vx_catch hown [⟨0, 10, 13, 28⟩] ⟨0, 10, 17, 47⟩ [] (htab.trans rfl) (by intro z hz; simp only [List.mem_cons, List.not_mem_nil, or_false] at hz; rcases hz with rfl <;> first | exact Or.inr ⟨by decide, "java/lang/IndexOutOfBoundsException", hts _ q753, EV.nc hE (by decide +kernel)⟩) (by decide) (by decide) (hts _ q857) (EV.cast hE (by decide +kernel)) hc9 hv9 hcl9 ?_
      refine lv_astore (lv' := [(4, .ref q9), (0, .ref (Z.2.2 0 0)), (1, .int p1), (2, .int p2), (3, .ref (Z.2.2 56 0))]) hx hb dL_read_17 hl (by decide) rfl (fun ls hl => ?_)
      refine lv_iconst (v := (2 : Int32)) hx hb dL_read_19 (by decide) ?_
      cases (show some _ = some _ from hk)
      exact we_i hx hb hr hlocks hP rfl hS dL_read_20 (by decide) (by decide)
    have hk := it_f cz9 hk
    exact nomatch (show none = some _ from hk)
  have hk := hn6 _ ho
  refine lv_i2l (v := (v1).toInt64) hx hb dL_read_8 rfl ?_
  obtain ⟨O10, eO10, hk⟩ := lq_s hk
  refine wa_lastore_56 hx hb hZ hK hP hS (by decide) (by unfold vp_in; decide) dL_read_9 (fun H locs hP hS => ?_)
  rw [← eO10] at hP
  refine lv_goto (tgt := 21) hx hb dL_read_10 (by decide) ?_
  refine lv_iconst (v := (0 : Int32)) hx hb dL_read_21 (by decide) ?_
  cases (show some _ = some _ from hk)
  exact we_i hx hb hr hlocks hP rfl hS dL_read_22 (by decide) (by decide)