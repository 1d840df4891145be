set_option maxHeartbeats 4000000 in
set_option maxRecDepth 100000 in
theorem k_X7_bodyCount (l : Launch) (hfl : l.stackTraces = false) (Z : ZT) (hZ : wD Z) (X M O : SS) (r : Int32) (hf : f_X7_bodyCount M = some (r)) (sz : Nat) : vx_Met l yX7_bodyCount ws_X7_bodyCount rm_X7_bodyCount (va_Pc [.ref (Z.2.2 26 0)] (cP Z (X, M, O) sz)) (cQi Z (X, M, O) (.inl r) sz) (cX Z (X, M, O) (.inl r : Int32 ⊕ String) sz) 0 0 (wA Z sz) := by
  refine vx_ofW (cc := cX7_bodyCount) (maxL := 3) (ret := (some .int)) (by decide) rfl ?_
  intro p e s m args below meth c s₁ B hml htab hv
  obtain ⟨hargs, hsz, hE, hP, hK⟩ := hv
  have hx := B.exec
  have hb := B.bytes
  have hr := B.returns
  have hts0 := atoms_spec (ws := ws_X7_bodyCount) B.pre
  have hts : ∀ w ∈ lw_all, w.before args s = true := fun w h => hts0 w (List.mem_cons_of_mem _ h)
  have hown : s.vm.findClass RX7 = some m.cls := findClass_of_methodNamed B.named
  have hlocks := B.notSynchronized
  have hout9 : ∀ (pc9 : Nat), ∀ x ∈ c.exceptionTable.toList, covers x pc9 = false := fun _ x hx9 => (htab x hx9).elim
  subst hsz
  have hS : va_S (wA Z s.heap.size) s.heap s.heap [] := va_S.rf
  have hl := lv_entry ([.ref (Z.2.2 26 0)]) (n := 3) (Nat.le_of_ble_eq_true rfl)
  have hen : entryFrame m args 3 = entryFrame m ([.ref (Z.2.2 26 0)] : List Value).toArray 3 := by rw [hargs]
  rw [hen, lg_entry_eq]
  generalize (lg_sl ([.ref (Z.2.2 26 0)]) ++ List.replicate (3 - (lg_sl ([.ref (Z.2.2 26 0)])).length) Slot.unset).toArray = ls at hl ⊢
  have hl : lv_has ls 3 [(0, .ref (Z.2.2 26 0))] := hl
  have hk := hf
  unfold f_X7_bodyCount at hk
  refine lv_iconst (v := (0 : Int32)) hx hb dX7_bodyCount_0 (by decide) ?_
  refine lv_istore_n (lv' := [(1, .int (0 : Int32)), (0, .ref (Z.2.2 26 0))]) hx hb dX7_bodyCount_1 rfl hl (by decide) rfl (fun ls hl => ?_)
  refine lv_iconst (v := (0 : Int32)) hx hb dX7_bodyCount_2 (by decide) ?_
  refine lv_istore_n (lv' := [(2, .int (0 : Int32)), (1, .int (0 : Int32)), (0, .ref (Z.2.2 26 0))]) hx hb dX7_bodyCount_3 rfl hl (by decide) rfl (fun ls hl => ?_)
  obtain ⟨k1, hk1, hk⟩ := gn hk
  have ex1 : ∀ (v2 : Int32) (H : Heap) (locs : List Loc) (ls : Array Slot), k1 v2 = some (r) → wP Z (X, M, O) H → va_S (wA Z s.heap.size) s.heap H locs → lv_has ls 3 [(1, .int v2)] → W p l e (headSpec ws_X7_bodyCount rm_X7_bodyCount).room s m args below meth c H locs 0 0 (vx_MQ below (cQi Z (X, M, O) (.inl r) s.heap.size) (cX Z (X, M, O) (.inl r : Int32 ⊕ String) s.heap.size) args s 0 0 (wA Z s.heap.size)) (F0 m 35 ls []) := by
    intro v2 H locs ls hk hP hS hl
    subst hk1
    refine lv_iload_n hx hb dX7_bodyCount_35 rfl (lv_at hl 0 rfl) ?_
    cases (show some _ = some _ from hk)
    exact we_i hx hb hr hlocks hP rfl hS dX7_bodyCount_36 (by decide) (by decide)
  have lp1 : ∀ (n : Nat) (v3 : Int32) (v4 : Int32) (H : Heap) (locs : List Loc) (ls : Array Slot), f_X7_bodyCount_L4 M n v3 v4 k1 = some (r) → wP Z (X, M, O) H → va_S (wA Z s.heap.size) s.heap H locs → lv_has ls 3 [(2, .int v3), (1, .int v4), (0, .ref (Z.2.2 26 0))] → W p l e (headSpec ws_X7_bodyCount rm_X7_bodyCount).room s m args below meth c H locs 0 0 (vx_MQ below (cQi Z (X, M, O) (.inl r) s.heap.size) (cX Z (X, M, O) (.inl r : Int32 ⊕ String) s.heap.size) args s 0 0 (wA Z s.heap.size)) (F0 m 4 ls []) := by
    intro n
    induction n with
    | zero =>
      intro v3 v4 H locs ls hk
      rw [f_X7_bodyCount_L4] at hk
      exact nomatch (show none = some _ from hk)
    | succ n ih =>
      intro v3 v4 H locs ls hk hP hS hl
      rw [f_X7_bodyCount_L4] at hk
      refine lv_iload_n hx hb dX7_bodyCount_4 rfl (lv_at hl 0 rfl) ?_
      refine lv_aload_n hx hb dX7_bodyCount_5 rfl (lv_at hl 2 rfl) ?_
      refine gf_RX7_25 hx hb hts hown hK hP (by decide) dX7_bodyCount_6 ?_
      refine lv_icmp_ge (tgt := 35) hx hb dX7_bodyCount_9 (by decide) (fun cz5 => ?_) (fun cz5 => ?_)
      · have hk := it_t cz5 hk
        exact ex1 v4 _ _ _ hk hP hS (lv_sub hl [1] rfl)
      · have hk := it_f cz5 hk
        refine lv_iload_n hx hb dX7_bodyCount_12 rfl (lv_at hl 1 rfl) ?_
        refine lv_aload_n hx hb dX7_bodyCount_13 rfl (lv_at hl 2 rfl) ?_
        refine gf_RX7_91 hx hb hts hown hK hP (by decide) dX7_bodyCount_14 ?_
        refine lv_iload_n hx hb dX7_bodyCount_17 rfl (lv_at hl 0 rfl) ?_
        obtain ⟨hg6, hk⟩ := gd_s hk
        refine wa_baload_43 hx hb hK hP (by decide) hg6 dX7_bodyCount_18 ?_
        refine lv_if_eq (tgt := 26) hx hb dX7_bodyCount_19 (by decide) (fun cz7 => ?_) (fun cz7 => ?_)
        · have hk := it_t cz7 hk
          refine lv_iconst (v := (0 : Int32)) hx hb dX7_bodyCount_26 (by decide) ?_
          refine lv_iadd hx hb dX7_bodyCount_27 ?_
          obtain ⟨v8, ev8, hk⟩ := lq_s hk
          refine W.eq (g2 := F0 m 28 ls [.int v8]) (by rw [ev8]) ?_
          refine lv_istore_n (lv' := [(1, .int v8), (2, .int v3), (0, .ref (Z.2.2 26 0))]) hx hb dX7_bodyCount_28 rfl hl (by decide) rfl (fun ls hl => ?_)
          refine lv_iinc (v := (v3 + (1 : Int32))) (lv' := [(2, .int (v3 + (1 : Int32))), (1, .int v8), (0, .ref (Z.2.2 26 0))]) hx hb dX7_bodyCount_29 hl (k := 1) rfl rfl (by decide) rfl (fun ls hl => ?_)
          refine lv_goto (tgt := 4) hx hb dX7_bodyCount_32 (by decide) ?_
          exact ih (v3 + (1 : Int32)) v8 _ _ _ hk hP hS (lv_sub hl [0, 1, 2] rfl)
        · have hk := it_f cz7 hk
          refine lv_iconst (v := (1 : Int32)) hx hb dX7_bodyCount_22 (by decide) ?_
          refine lv_goto (tgt := 27) hx hb dX7_bodyCount_23 (by decide) ?_
          refine lv_iadd hx hb dX7_bodyCount_27 ?_
          obtain ⟨v9, ev9, hk⟩ := lq_s hk
          refine W.eq (g2 := F0 m 28 ls [.int v9]) (by rw [ev9]) ?_
          refine lv_istore_n (lv' := [(1, .int v9), (2, .int v3), (0, .ref (Z.2.2 26 0))]) hx hb dX7_bodyCount_28 rfl hl (by decide) rfl (fun ls hl => ?_)
          refine lv_iinc (v := (v3 + (1 : Int32))) (lv' := [(2, .int (v3 + (1 : Int32))), (1, .int v9), (0, .ref (Z.2.2 26 0))]) hx hb dX7_bodyCount_29 hl (k := 1) rfl rfl (by decide) rfl (fun ls hl => ?_)
          refine lv_goto (tgt := 4) hx hb dX7_bodyCount_32 (by decide) ?_
          exact ih (v3 + (1 : Int32)) v9 _ _ _ hk hP hS (lv_sub hl [0, 1, 2] rfl)
  exact lp1 1000 (0 : Int32) (0 : Int32) _ _ _ hk hP hS (lv_sub hl [0, 1, 2] rfl)
set_option maxHeartbeats 4000000 in
set_option maxRecDepth 100000 in
theorem k_X7_weightOf (l : Launch) (hfl : l.stackTraces = false) (Z : ZT) (hZ : wD Z) (X M O : SS) (p0 : Int32) (r : Int32) (hf : f_X7_weightOf M p0 = some (r)) (sz : Nat) : vx_Met l yX7_weightOf ws_X7_weightOf rm_X7_weightOf (va_Pc [.ref (Z.2.2 26 0), .int p0] (cP Z (X, M, O) sz)) (cQi Z (X, M, O) (.inl r) sz) (cX Z (X, M, O) (.inl r : Int32 ⊕ String) sz) 0 0 (wA Z sz) := by
  refine vx_ofW (cc := cX7_weightOf) (maxL := 4) (ret := (some .int)) (by decide) rfl ?_
  intro p e s m args below meth c s₁ B hml htab hv
  obtain ⟨hargs, hsz, hE, hP, hK⟩ := hv
  have hx := B.exec
  have hb := B.bytes
  have hr := B.returns
  have hts0 := atoms_spec (ws := ws_X7_weightOf) B.pre
  have hts : ∀ w ∈ lw_all, w.before args s = true := fun w h => hts0 w (List.mem_cons_of_mem _ h)
  have hown : s.vm.findClass RX7 = some m.cls := findClass_of_methodNamed B.named
  have hlocks := B.notSynchronized
  have hout9 : ∀ (pc9 : Nat), ∀ x ∈ c.exceptionTable.toList, covers x pc9 = false := fun _ x hx9 => (htab x hx9).elim
  subst hsz
  have hS : va_S (wA Z s.heap.size) s.heap s.heap [] := va_S.rf
  have hl := lv_entry ([.ref (Z.2.2 26 0), .int p0]) (n := 4) (Nat.le_of_ble_eq_true rfl)
  have hen : entryFrame m args 4 = entryFrame m ([.ref (Z.2.2 26 0), .int p0] : List Value).toArray 4 := by rw [hargs]
  rw [hen, lg_entry_eq]
  generalize (lg_sl ([.ref (Z.2.2 26 0), .int p0]) ++ List.replicate (4 - (lg_sl ([.ref (Z.2.2 26 0), .int p0])).length) Slot.unset).toArray = ls at hl ⊢
  have hl : lv_has ls 4 [(0, .ref (Z.2.2 26 0)), (1, .int p0)] := hl
  have hk := hf
  unfold f_X7_weightOf at hk
  refine lv_iconst (v := (0 : Int32)) hx hb dX7_weightOf_0 (by decide) ?_
  refine lv_istore_n (lv' := [(2, .int (0 : Int32)), (0, .ref (Z.2.2 26 0)), (1, .int p0)]) hx hb dX7_weightOf_1 rfl hl (by decide) rfl (fun ls hl => ?_)
  refine lv_iconst (v := (0 : Int32)) hx hb dX7_weightOf_2 (by decide) ?_
  refine lv_istore_n (lv' := [(3, .int (0 : Int32)), (2, .int (0 : Int32)), (0, .ref (Z.2.2 26 0)), (1, .int p0)]) hx hb dX7_weightOf_3 rfl hl (by decide) rfl (fun ls hl => ?_)
  obtain ⟨k1, hk1, hk⟩ := gn hk
  have ex1 : ∀ (v2 : Int32) (H : Heap) (locs : List Loc) (ls : Array Slot), k1 v2 = some (r) → wP Z (X, M, O) H → va_S (wA Z s.heap.size) s.heap H locs → lv_has ls 4 [(2, .int v2)] → W p l e (headSpec ws_X7_weightOf rm_X7_weightOf).room s m args below meth c H locs 0 0 (vx_MQ below (cQi Z (X, M, O) (.inl r) s.heap.size) (cX Z (X, M, O) (.inl r : Int32 ⊕ String) s.heap.size) args s 0 0 (wA Z s.heap.size)) (F0 m 30 ls []) := by
    intro v2 H locs ls hk hP hS hl
    subst hk1
    refine lv_iload_n hx hb dX7_weightOf_30 rfl (lv_at hl 0 rfl) ?_
    cases (show some _ = some _ from hk)
    exact we_i hx hb hr hlocks hP rfl hS dX7_weightOf_31 (by decide) (by decide)
  have lp1 : ∀ (n : Nat) (v3 : Int32) (v4 : Int32) (H : Heap) (locs : List Loc) (ls : Array Slot), f_X7_weightOf_L4 p0 M n v3 v4 k1 = some (r) → wP Z (X, M, O) H → va_S (wA Z s.heap.size) s.heap H locs → lv_has ls 4 [(3, .int v3), (2, .int v4), (0, .ref (Z.2.2 26 0)), (1, .int p0)] → W p l e (headSpec ws_X7_weightOf rm_X7_weightOf).room s m args below meth c H locs 0 0 (vx_MQ below (cQi Z (X, M, O) (.inl r) s.heap.size) (cX Z (X, M, O) (.inl r : Int32 ⊕ String) s.heap.size) args s 0 0 (wA Z s.heap.size)) (F0 m 4 ls []) := by
    intro n
    induction n with
    | zero =>
      intro v3 v4 H locs ls hk
      rw [f_X7_weightOf_L4] at hk
      exact nomatch (show none = some _ from hk)
    | succ n ih =>
      intro v3 v4 H locs ls hk hP hS hl
      rw [f_X7_weightOf_L4] at hk
      refine lv_iload_n hx hb dX7_weightOf_4 rfl (lv_at hl 0 rfl) ?_
      refine lv_bipush (v := (10 : Int32)) hx hb dX7_weightOf_5 (by decide) ?_
      refine lv_icmp_ge (tgt := 30) hx hb dX7_weightOf_7 (by decide) (fun cz5 => ?_) (fun cz5 => ?_)
      · have hk := it_t cz5 hk
        exact ex1 v4 _ _ _ hk hP hS (lv_sub hl [1] rfl)
      · have hk := it_f cz5 hk
        refine lv_iload_n hx hb dX7_weightOf_10 rfl (lv_at hl 1 rfl) ?_
        refine lv_aload_n hx hb dX7_weightOf_11 rfl (lv_at hl 2 rfl) ?_
        refine gf_RX7_104 hx hb hts hown hK hP (by decide) dX7_weightOf_12 ?_
        refine lv_bipush (v := (10 : Int32)) hx hb dX7_weightOf_15 (by decide) ?_
        refine lv_iload_n hx hb dX7_weightOf_17 rfl (lv_at hl 3 rfl) ?_
        refine lv_imul hx hb dX7_weightOf_18 ?_
        refine lv_iload_n hx hb dX7_weightOf_19 rfl (lv_at hl 0 rfl) ?_
        refine lv_iadd hx hb dX7_weightOf_20 ?_
        obtain ⟨hg6, hk⟩ := gd_s hk
        refine wa_iaload_47 hx hb hK hP (by decide) hg6 dX7_weightOf_21 ?_
        refine lv_iadd hx hb dX7_weightOf_22 ?_
        obtain ⟨v7, ev7, hk⟩ := lq_s hk
        refine W.eq (g2 := F0 m 23 ls [.int v7]) (by rw [ev7]) ?_
        refine lv_istore_n (lv' := [(2, .int v7), (3, .int v3), (0, .ref (Z.2.2 26 0)), (1, .int p0)]) hx hb dX7_weightOf_23 rfl hl (by decide) rfl (fun ls hl => ?_)
        refine lv_iinc (v := (v3 + (1 : Int32))) (lv' := [(3, .int (v3 + (1 : Int32))), (2, .int v7), (0, .ref (Z.2.2 26 0)), (1, .int p0)]) hx hb dX7_weightOf_24 hl (k := 1) rfl rfl (by decide) rfl (fun ls hl => ?_)
        refine lv_goto (tgt := 4) hx hb dX7_weightOf_27 (by decide) ?_
        exact ih (v3 + (1 : Int32)) v7 _ _ _ hk hP hS (lv_sub hl [0, 1, 2, 3] rfl)
  exact lp1 1000 (0 : Int32) (0 : Int32) _ _ _ hk hP hS (lv_sub hl [0, 1, 2, 3] rfl)
set_option maxHeartbeats 4000000 in
set_option maxRecDepth 100000 in
theorem k_X7_isWorse (l : Launch) (hfl : l.stackTraces = false) (Z : ZT) (hZ : wD Z) (X M O : SS) (p0 : Int32) (p1 : Int32) (r : Int32) (hf : f_X7_isWorse M p0 p1 = some (r)) (sz : Nat) : vx_Met l yX7_isWorse ws_X7_isWorse rm_X7_isWorse (va_Pc [.ref (Z.2.2 26 0), .int p0, .int p1] (cP Z (X, M, O) sz)) (cQi Z (X, M, O) (.inl r) sz) (cX Z (X, M, O) (.inl r : Int32 ⊕ String) sz) 0 0 (wA Z sz) := by
  refine vx_ofW (cc := cX7_isWorse) (maxL := 3) (ret := (some .boolean)) (by decide) rfl ?_
  intro p e s m args below meth c s₁ B hml htab hv
  obtain ⟨hargs, hsz, hE, hP, hK⟩ := hv
  have hx := B.exec
  have hb := B.bytes
  have hr := B.returns
  have hts0 := atoms_spec (ws := ws_X7_isWorse) B.pre
  have hts : ∀ w ∈ lw_all, w.before args s = true := fun w h => hts0 w (List.mem_cons_of_mem _ h)
  have hown : s.vm.findClass RX7 = some m.cls := findClass_of_methodNamed B.named
  have hlocks := B.notSynchronized
  have hout9 : ∀ (pc9 : Nat), ∀ x ∈ c.exceptionTable.toList, covers x pc9 = false := fun _ x hx9 => (htab x hx9).elim
  subst hsz
  have hS : va_S (wA Z s.heap.size) s.heap s.heap [] := va_S.rf
  have hl := lv_entry ([.ref (Z.2.2 26 0), .int p0, .int p1]) (n := 3) (Nat.le_of_ble_eq_true rfl)
  have hen : entryFrame m args 3 = entryFrame m ([.ref (Z.2.2 26 0), .int p0, .int p1] : List Value).toArray 3 := by rw [hargs]
  rw [hen, lg_entry_eq]
  generalize (lg_sl ([.ref (Z.2.2 26 0), .int p0, .int p1]) ++ List.replicate (3 - (lg_sl ([.ref (Z.2.2 26 0), .int p0, .int p1])).length) Slot.unset).toArray = ls at hl ⊢
  have hl : lv_has ls 3 [(0, .ref (Z.2.2 26 0)), (1, .int p0), (2, .int p1)] := hl
  have hk := hf
  unfold f_X7_isWorse at hk
  refine lv_aload_n hx hb dX7_isWorse_0 rfl (lv_at hl 0 rfl) ?_
  refine gf_RX7_88 hx hb hts hown hK hP (by decide) dX7_isWorse_1 ?_
  refine lv_iload_n hx hb dX7_isWorse_4 rfl (lv_at hl 1 rfl) ?_
  obtain ⟨hg1, hk⟩ := gd_s hk
  refine wa_caload_42 hx hb hK hP (by decide) hg1 dX7_isWorse_5 ?_
  refine lv_bipush (v := (102 : Int32)) hx hb dX7_isWorse_6 (by decide) ?_
  have jn3 : ∀ (v2 : Int32) (H : Heap) (locs : List Loc) (ls : Array Slot), f_X7_isWorse_J16 p1 M p0 v2 = some (r) → wP Z (X, M, O) H → va_S (wA Z s.heap.size) s.heap H locs → lv_has ls 3 [(0, .ref (Z.2.2 26 0)), (1, .int p0), (2, .int p1)] → W p l e (headSpec ws_X7_isWorse rm_X7_isWorse).room s m args below meth c H locs 0 0 (vx_MQ below (cQi Z (X, M, O) (.inl r) s.heap.size) (cX Z (X, M, O) (.inl r : Int32 ⊕ String) s.heap.size) args s 0 0 (wA Z s.heap.size)) (F0 m 16 ls [.int v2]) := by
    intro v2 H locs ls hk hP hS hl
    unfold f_X7_isWorse_J16 at hk
    refine lv_aload_n hx hb dX7_isWorse_16 rfl (lv_at hl 0 rfl) ?_
    refine gf_RX7_88 hx hb hts hown hK hP (by decide) dX7_isWorse_17 ?_
    refine lv_iload_n hx hb dX7_isWorse_20 rfl (lv_at hl 2 rfl) ?_
    obtain ⟨hg4, hk⟩ := gd_s hk
    refine wa_caload_42 hx hb hK hP (by decide) hg4 dX7_isWorse_21 ?_
    refine lv_bipush (v := (102 : Int32)) hx hb dX7_isWorse_22 (by decide) ?_
    have jn6 : ∀ (v5 : Int32) (H : Heap) (locs : List Loc) (ls : Array Slot), f_X7_isWorse_J32 v2 M p0 p1 v5 = some (r) → wP Z (X, M, O) H → va_S (wA Z s.heap.size) s.heap H locs → lv_has ls 3 [(0, .ref (Z.2.2 26 0)), (1, .int p0), (2, .int p1)] → W p l e (headSpec ws_X7_isWorse rm_X7_isWorse).room s m args below meth c H locs 0 0 (vx_MQ below (cQi Z (X, M, O) (.inl r) s.heap.size) (cX Z (X, M, O) (.inl r : Int32 ⊕ String) s.heap.size) args s 0 0 (wA Z s.heap.size)) (F0 m 32 ls [.int v5, .int v2]) := by
      intro v5 H locs ls hk hP hS hl
      unfold f_X7_isWorse_J32 at hk
      refine lv_icmp_eq (tgt := 52) hx hb dX7_isWorse_32 (by decide) (fun cz7 => ?_) (fun cz7 => ?_)
      · have hk := it_t cz7 hk
        refine lv_aload_n hx hb dX7_isWorse_52 rfl (lv_at hl 0 rfl) ?_
        refine lv_iload_n hx hb dX7_isWorse_53 rfl (lv_at hl 1 rfl) ?_
        obtain ⟨v8, hf9, hk⟩ := b0_s hk
        refine wc_iV0 (rest := []) (As := [.int p0]) ⟨hx, hb, hml, hown, hts⟩ (fun sz => k_X7_weightOf l hfl Z hZ X M O p0 v8 hf9 sz) (cw_RX7_233 (args := args) (s := s) hts (Nat.le_of_ble_eq_true rfl) (Nat.le_of_ble_eq_true rfl)) hE hP hK hS (rv_26 hK hP (by decide)) rfl hl.1 rfl (Nat.le_of_ble_eq_true rfl) dX7_isWorse_54 ⟨Nat.le_of_ble_eq_true rfl, Nat.le_of_ble_eq_true rfl⟩ (fun H locs hP hS => ?_)
        refine lv_aload_n hx hb dX7_isWorse_57 rfl (lv_at hl 0 rfl) ?_
        refine lv_iload_n hx hb dX7_isWorse_58 rfl (lv_at hl 2 rfl) ?_
        obtain ⟨v10, hf11, hk⟩ := b0_s hk
        refine wc_iV0 (rest := [.int v8]) (As := [.int p1]) ⟨hx, hb, hml, hown, hts⟩ (fun sz => k_X7_weightOf l hfl Z hZ X M O p1 v10 hf11 sz) (cw_RX7_233 (args := args) (s := s) hts (Nat.le_of_ble_eq_true rfl) (Nat.le_of_ble_eq_true rfl)) hE hP hK hS (rv_26 hK hP (by decide)) rfl hl.1 rfl (Nat.le_of_ble_eq_true rfl) dX7_isWorse_59 ⟨Nat.le_of_ble_eq_true rfl, Nat.le_of_ble_eq_true rfl⟩ (fun H locs hP hS => ?_)
        refine lv_icmp_ge (tgt := 69) hx hb dX7_isWorse_62 (by decide) (fun cz12 => ?_) (fun cz12 => ?_)
        · have hk := it_t cz12 hk
          refine lv_iconst (v := (0 : Int32)) hx hb dX7_isWorse_69 (by decide) ?_
          cases (show some _ = some _ from hk)
          exact we_z hx hb hr hlocks (show okz (0 : Int32) by unfold okz; decide).1 hP rfl hS dX7_isWorse_70 (by decide) (by decide)
        · have hk := it_f cz12 hk
          refine lv_iconst (v := (1 : Int32)) hx hb dX7_isWorse_65 (by decide) ?_
          refine lv_goto (tgt := 70) hx hb dX7_isWorse_66 (by decide) ?_
          cases (show some _ = some _ from hk)
          exact we_z hx hb hr hlocks (show okz (1 : Int32) by unfold okz; decide).1 hP rfl hS dX7_isWorse_70 (by decide) (by decide)
      · have hk := it_f cz7 hk
        refine lv_aload_n hx hb dX7_isWorse_35 rfl (lv_at hl 0 rfl) ?_
        refine gf_RX7_88 hx hb hts hown hK hP (by decide) dX7_isWorse_36 ?_
        refine lv_iload_n hx hb dX7_isWorse_39 rfl (lv_at hl 1 rfl) ?_
        obtain ⟨hg13, hk⟩ := gd_s hk
        refine wa_caload_42 hx hb hK hP (by decide) hg13 dX7_isWorse_40 ?_
        refine lv_bipush (v := (102 : Int32)) hx hb dX7_isWorse_41 (by decide) ?_
        refine lv_icmp_ne (tgt := 50) hx hb dX7_isWorse_43 (by decide) (fun cz14 => ?_) (fun cz14 => ?_)
        · have hk := it_f cz14 hk
          refine lv_iconst (v := (0 : Int32)) hx hb dX7_isWorse_50 (by decide) ?_
          cases (show some _ = some _ from hk)
          exact we_z hx hb hr hlocks (show okz (0 : Int32) by unfold okz; decide).1 hP rfl hS dX7_isWorse_51 (by decide) (by decide)
        · have hk := it_t cz14 hk
          refine lv_iconst (v := (1 : Int32)) hx hb dX7_isWorse_46 (by decide) ?_
          refine lv_goto (tgt := 51) hx hb dX7_isWorse_47 (by decide) ?_
          cases (show some _ = some _ from hk)
          exact we_z hx hb hr hlocks (show okz (1 : Int32) by unfold okz; decide).1 hP rfl hS dX7_isWorse_51 (by decide) (by decide)
    refine lv_icmp_ne (tgt := 31) hx hb dX7_isWorse_24 (by decide) (fun cz15 => ?_) (fun cz15 => ?_)
    · have hk := it_f cz15 hk
      refine lv_iconst (v := (0 : Int32)) hx hb dX7_isWorse_31 (by decide) ?_
      exact jn6 (0 : Int32) _ _ _ hk hP hS (lv_sub hl [0, 1, 2] rfl)
    · have hk := it_t cz15 hk
      refine lv_iconst (v := (1 : Int32)) hx hb dX7_isWorse_27 (by decide) ?_
      refine lv_goto (tgt := 32) hx hb dX7_isWorse_28 (by decide) ?_
      exact jn6 (1 : Int32) _ _ _ hk hP hS (lv_sub hl [0, 1, 2] rfl)
  refine lv_icmp_ne (tgt := 15) hx hb dX7_isWorse_8 (by decide) (fun cz16 => ?_) (fun cz16 => ?_)
  · have hk := it_f cz16 hk
    refine lv_iconst (v := (0 : Int32)) hx hb dX7_isWorse_15 (by decide) ?_
    exact jn3 (0 : Int32) _ _ _ hk hP hS (lv_sub hl [0, 1, 2] rfl)
  · have hk := it_t cz16 hk
    refine lv_iconst (v := (1 : Int32)) hx hb dX7_isWorse_11 (by decide) ?_
    refine lv_goto (tgt := 16) hx hb dX7_isWorse_12 (by decide) ?_
    exact jn3 (1 : Int32) _ _ _ hk hP hS (lv_sub hl [0, 1, 2] rfl)
set_option maxHeartbeats 4000000 in
set_option maxRecDepth 100000 in
theorem k_X7_stepsOf (l : Launch) (hfl : l.stackTraces = false) (Z : ZT) (hZ : wD Z) (X M O : SS) (p0 : Int32) (p1 : Int32) (Mz : SS) (r : Int32) (hf : f_X7_stepsOf M p0 p1 = some (Mz, r)) (sz : Nat) : vx_Met l yX7_stepsOf ws_X7_stepsOf rm_X7_stepsOf (va_Pc [.ref (Z.2.2 26 0), .int p0, .int p1] (cP Z (X, M, O) sz)) (cQi Z (X, Mz, O) (.inl r) sz) (cX Z (X, Mz, O) (.inl r : Int32 ⊕ String) sz) 0 0 (wA Z sz) := by
  refine vx_ofW (cc := cX7_stepsOf) (maxL := 4) (ret := (some .int)) (by decide) rfl ?_
  intro p e s m args below meth c s₁ B hml htab hv
  obtain ⟨hargs, hsz, hE, hP, hK⟩ := hv
  have hx := B.exec
  have hb := B.bytes
  have hr := B.returns
  have hts0 := atoms_spec (ws := ws_X7_stepsOf) B.pre
  have hts : ∀ w ∈ lw_all, w.before args s = true := fun w h => hts0 w (List.mem_cons_of_mem _ h)
  have hown : s.vm.findClass RX7 = some m.cls := findClass_of_methodNamed B.named
  have hlocks := B.notSynchronized
  have hout9 : ∀ (pc9 : Nat), ∀ x ∈ c.exceptionTable.toList, covers x pc9 = false := fun _ x hx9 => (htab x hx9).elim
  subst hsz
  have hS : va_S (wA Z s.heap.size) s.heap s.heap [] := va_S.rf
  have hl := lv_entry ([.ref (Z.2.2 26 0), .int p0, .int p1]) (n := 4) (Nat.le_of_ble_eq_true rfl)
  have hen : entryFrame m args 4 = entryFrame m ([.ref (Z.2.2 26 0), .int p0, .int p1] : List Value).toArray 4 := by rw [hargs]
  rw [hen, lg_entry_eq]
  generalize (lg_sl ([.ref (Z.2.2 26 0), .int p0, .int p1]) ++ List.replicate (4 - (lg_sl ([.ref (Z.2.2 26 0), .int p0, .int p1])).length) Slot.unset).toArray = ls at hl ⊢
  have hl : lv_has ls 4 [(0, .ref (Z.2.2 26 0)), (1, .int p0), (2, .int p1)] := hl
  have hk := hf
  unfold f_X7_stepsOf at hk
  refine lv_aload_n hx hb dX7_stepsOf_0 rfl (lv_at hl 0 rfl) ?_
  refine gf_RX7_91 hx hb hts hown hK hP (by decide) dX7_stepsOf_1 ?_
  refine lv_iload_n hx hb dX7_stepsOf_4 rfl (lv_at hl 1 rfl) ?_
  obtain ⟨hg1, hk⟩ := gd_s hk
  refine wa_baload_43 hx hb hK hP (by decide) hg1 dX7_stepsOf_5 ?_
  refine lv_if_ne (tgt := 20) hx hb dX7_stepsOf_6 (by decide) (fun cz2 => ?_) (fun cz2 => ?_)
  · have hk := it_f cz2 hk
    refine lv_aload_n hx hb dX7_stepsOf_20 rfl (lv_at hl 0 rfl) ?_
    refine lv_iload_n hx hb dX7_stepsOf_21 rfl (lv_at hl 1 rfl) ?_
    refine lv_iconst (v := (5 : Int32)) hx hb dX7_stepsOf_22 (by decide) ?_
    refine lv_aload_n hx hb dX7_stepsOf_23 rfl (lv_at hl 0 rfl) ?_
    refine gf_RX7_81 hx hb hts hown hK hP (by decide) dX7_stepsOf_24 ?_
    refine lv_iload_n hx hb dX7_stepsOf_27 rfl (lv_at hl 1 rfl) ?_
    obtain ⟨hg3, hk⟩ := gd_s hk
    refine wa_iaload_40 hx hb hK hP (by decide) hg3 dX7_stepsOf_28 ?_
    refine lv_imul hx hb dX7_stepsOf_29 ?_
    refine lv_iload_n hx hb dX7_stepsOf_30 rfl (lv_at hl 2 rfl) ?_
    refine lv_iadd hx hb dX7_stepsOf_31 ?_
    obtain ⟨M5, v4, hf6, hk⟩ := b1_s hk
    refine wc_iV0 (rest := []) (As := [.int p0, .int (((5 : Int32) * (M.1 40 0 (p0).toNatClampNeg)) + p1)]) ⟨hx, hb, hml, hown, hts⟩ (fun sz => k_X7_runs l hfl Z hZ X M O p0 (((5 : Int32) * (M.1 40 0 (p0).toNatClampNeg)) + p1) M5 v4 hf6 sz) (cw_RX7_200 (args := args) (s := s) hts (Nat.le_of_ble_eq_true rfl) (Nat.le_of_ble_eq_true rfl)) hE hP hK hS (rv_26 hK hP (by decide)) rfl hl.1 rfl (Nat.le_of_ble_eq_true rfl) dX7_stepsOf_32 ⟨Nat.le_of_ble_eq_true rfl, Nat.le_of_ble_eq_true rfl⟩ (fun H locs hP hS => ?_)
    refine lv_istore_n (lv' := [(3, .int v4), (0, .ref (Z.2.2 26 0)), (1, .int p0), (2, .int p1)]) hx hb dX7_stepsOf_35 rfl hl (by decide) rfl (fun ls hl => ?_)
    refine lv_iload_n hx hb dX7_stepsOf_36 rfl (lv_at hl 0 rfl) ?_
    refine lv_if_le (tgt := 47) hx hb dX7_stepsOf_37 (by decide) (fun cz7 => ?_) (fun cz7 => ?_)
    · have hk := it_t cz7 hk
      refine lv_iconst (v := ((-1) : Int32)) hx hb dX7_stepsOf_47 (by decide) ?_
      cases (show some _ = some _ from hk)
      exact we_i hx hb hr hlocks hP rfl hS dX7_stepsOf_48 (by decide) (by decide)
    · have hk := it_f cz7 hk
      refine lv_aload_n hx hb dX7_stepsOf_40 rfl (lv_at hl 1 rfl) ?_
      refine gf_RX7_134 hx hb hts hown hK hP (by decide) dX7_stepsOf_41 ?_
      refine lv_goto (tgt := 48) hx hb dX7_stepsOf_44 (by decide) ?_
      cases (show some _ = some _ from hk)
      exact we_i hx hb hr hlocks hP rfl hS dX7_stepsOf_48 (by decide) (by decide)
  · have hk := it_t cz2 hk
    refine lv_aload_n hx hb dX7_stepsOf_9 rfl (lv_at hl 0 rfl) ?_
    refine gf_RX7_95 hx hb hts hown hK hP (by decide) dX7_stepsOf_10 ?_
    refine lv_iconst (v := (5 : Int32)) hx hb dX7_stepsOf_13 (by decide) ?_
    refine lv_iload_n hx hb dX7_stepsOf_14 rfl (lv_at hl 1 rfl) ?_
    refine lv_imul hx hb dX7_stepsOf_15 ?_
    refine lv_iload_n hx hb dX7_stepsOf_16 rfl (lv_at hl 2 rfl) ?_
    refine lv_iadd hx hb dX7_stepsOf_17 ?_
    obtain ⟨hg8, hk⟩ := gd_s hk
    refine wa_iaload_44 hx hb hK hP (by decide) hg8 dX7_stepsOf_18 ?_
    cases (show some _ = some _ from hk)
    exact we_i hx hb hr hlocks hP rfl hS dX7_stepsOf_19 (by decide) (by decide)
set_option maxHeartbeats 4000000 in
set_option maxRecDepth 100000 in
theorem k_X7_loses (l : Launch) (hfl : l.stackTraces = false) (Z : ZT) (hZ : wD Z) (X M O : SS) (p0 : Int32) (p1 : Int32) (Mz : SS) (r : Unit) (hf : f_X7_loses M p0 p1 = some (Mz, r)) (sz : Nat) : vx_Met l yX7_loses ws_X7_loses rm_X7_loses (va_Pc [.ref (Z.2.2 26 0), .int p0, .int p1] (cP Z (X, M, O) sz)) (cQv Z (X, Mz, O) (.inl ()) sz) (cX Z (X, Mz, O) (.inl () : Unit ⊕ String) sz) 0 0 (wA Z sz) := by
  refine vx_ofW (cc := cX7_loses) (maxL := 6) (ret := none) (by decide) rfl ?_
  intro p e s m args below meth c s₁ B hml htab hv
  obtain ⟨hargs, hsz, hE, hP, hK⟩ := hv
  have hx := B.exec
  have hb := B.bytes
  have hr := B.returns
  have hts0 := atoms_spec (ws := ws_X7_loses) B.pre
  have hts : ∀ w ∈ lw_all, w.before args s = true := fun w h => hts0 w (List.mem_cons_of_mem _ h)
  have hown : s.vm.findClass RX7 = some m.cls := findClass_of_methodNamed B.named
  have hlocks := B.notSynchronized
  have hout9 : ∀ (pc9 : Nat), ∀ x ∈ c.exceptionTable.toList, covers x pc9 = false := fun _ x hx9 => (htab x hx9).elim
  subst hsz
  have hS : va_S (wA Z s.heap.size) s.heap s.heap [] := va_S.rf
  have hl := lv_entry ([.ref (Z.2.2 26 0), .int p0, .int p1]) (n := 6) (Nat.le_of_ble_eq_true rfl)
  have hen : entryFrame m args 6 = entryFrame m ([.ref (Z.2.2 26 0), .int p0, .int p1] : List Value).toArray 6 := by rw [hargs]
  rw [hen, lg_entry_eq]
  generalize (lg_sl ([.ref (Z.2.2 26 0), .int p0, .int p1]) ++ List.replicate (6 - (lg_sl ([.ref (Z.2.2 26 0), .int p0, .int p1])).length) Slot.unset).toArray = ls at hl ⊢
  have hl : lv_has ls 6 [(0, .ref (Z.2.2 26 0)), (1, .int p0), (2, .int p1)] := hl
  have hk := hf
  unfold f_X7_loses at hk
  refine lv_aload_n hx hb dX7_loses_0 rfl (lv_at hl 0 rfl) ?_
  refine gf_RX7_81 hx hb hts hown hK hP (by decide) dX7_loses_1 ?_
  refine lv_iload_n hx hb dX7_loses_4 rfl (lv_at hl 1 rfl) ?_
  obtain ⟨hg1, hk⟩ := gd_s hk
  refine wa_iaload_40 hx hb hK hP (by decide) hg1 dX7_loses_5 ?_
  obtain ⟨v2, ev2, hk⟩ := lq_s hk
  refine W.eq (g2 := F0 m 6 ls [.int v2]) (by rw [ev2]) ?_
  refine lv_istore_n (lv' := [(3, .int v2), (0, .ref (Z.2.2 26 0)), (1, .int p0), (2, .int p1)]) hx hb dX7_loses_6 rfl hl (by decide) rfl (fun ls hl => ?_)
  refine lv_iconst (v := (0 : Int32)) hx hb dX7_loses_7 (by decide) ?_
  refine lv_istore (lv' := [(4, .int (0 : Int32)), (3, .int v2), (0, .ref (Z.2.2 26 0)), (1, .int p0), (2, .int p1)]) hx hb dX7_loses_8 hl (by decide) rfl (fun ls hl => ?_)
  obtain ⟨k3, hk3, hk⟩ := gn hk
  have ex3 : ∀ (M4 : SS) (H : Heap) (locs : List Loc) (ls : Array Slot), k3 M4 = some (Mz, r) → wP Z (X, M4, O) H → va_S (wA Z s.heap.size) s.heap H locs → lv_has ls 6 [(0, .ref (Z.2.2 26 0)), (1, .int p0), (2, .int p1)] → W p l e (headSpec ws_X7_loses rm_X7_loses).room s m args below meth c H locs 0 0 (vx_MQ below (cQv Z (X, Mz, O) (.inl ()) s.heap.size) (cX Z (X, Mz, O) (.inl () : Unit ⊕ String) s.heap.size) args s 0 0 (wA Z s.heap.size)) (F0 m 77 ls []) := by
    intro M4 H locs ls hk hP hS hl
    subst hk3
    refine lv_aload_n hx hb dX7_loses_77 rfl (lv_at hl 0 rfl) ?_
    refine gf_RX7_91 hx hb hts hown hK hP (by decide) dX7_loses_78 ?_
    refine lv_iload_n hx hb dX7_loses_81 rfl (lv_at hl 1 rfl) ?_
    refine lv_iconst (v := (0 : Int32)) hx hb dX7_loses_82 (by decide) ?_
    obtain ⟨hg7, hk⟩ := gd_s hk
    obtain ⟨M8, eM8, hk⟩ := lq_s hk
    refine wa_bastore_43 hx hb hZ hK hP hS (by decide) hg7 dX7_loses_83 (fun H locs hP hS => ?_)
    rw [← eM8] at hP
    refine lv_aload_n hx hb dX7_loses_84 rfl (lv_at hl 0 rfl) ?_
    refine gf_RX7_88 hx hb hts hown hK hP (by decide) dX7_loses_85 ?_
    refine lv_iload_n hx hb dX7_loses_88 rfl (lv_at hl 1 rfl) ?_
    refine lv_iload_n hx hb dX7_loses_89 rfl (lv_at hl 2 rfl) ?_
    obtain ⟨hg9, hk⟩ := gd_s hk
    obtain ⟨M10, eM10, hk⟩ := lq_s hk
    refine wa_castore_42 hx hb hZ hK hP hS (by decide) hg9 dX7_loses_90 (fun H locs hP hS => ?_)
    rw [← eM10] at hP
    cases (show some _ = some _ from hk)
    exact we_v hx hb hr hlocks hP rfl hS dX7_loses_91 (by decide) (by decide)
  have lp3 : ∀ (n : Nat) (v5 : Int32) (M6 : SS) (H : Heap) (locs : List Loc) (ls : Array Slot), f_X7_loses_L10 p0 v2 n v5 M6 k3 = some (Mz, r) → wP Z (X, M6, O) H → va_S (wA Z s.heap.size) s.heap H locs → lv_has ls 6 [(4, .int v5), (3, .int v2), (0, .ref (Z.2.2 26 0)), (1, .int p0), (2, .int p1)] → W p l e (headSpec ws_X7_loses rm_X7_loses).room s m args below meth c H locs 0 0 (vx_MQ below (cQv Z (X, Mz, O) (.inl ()) s.heap.size) (cX Z (X, Mz, O) (.inl () : Unit ⊕ String) s.heap.size) args s 0 0 (wA Z s.heap.size)) (F0 m 10 ls []) := by
    intro n
    induction n with
    | zero =>
      intro v5 M6 H locs ls hk
      rw [f_X7_loses_L10] at hk
      exact nomatch (show none = some _ from hk)
    | succ n ih =>
      intro v5 M6 H locs ls hk hP hS hl
      rw [f_X7_loses_L10] at hk
      refine lv_iload hx hb dX7_loses_10 (lv_at hl 0 rfl) ?_
      refine lv_iconst (v := (5 : Int32)) hx hb dX7_loses_12 (by decide) ?_
      refine lv_icmp_ge (tgt := 77) hx hb dX7_loses_13 (by decide) (fun cz11 => ?_) (fun cz11 => ?_)
      · have hk := it_t cz11 hk
        exact ex3 M6 _ _ _ hk hP hS (lv_sub hl [2, 3, 4] rfl)
      · have hk := it_f cz11 hk
        refine lv_iconst (v := (5 : Int32)) hx hb dX7_loses_16 (by decide) ?_
        refine lv_iload_n hx hb dX7_loses_17 rfl (lv_at hl 3 rfl) ?_
        refine lv_imul hx hb dX7_loses_18 ?_
        refine lv_iload hx hb dX7_loses_19 (lv_at hl 0 rfl) ?_
        refine lv_iadd hx hb dX7_loses_21 ?_
        obtain ⟨v12, ev12, hk⟩ := lq_s hk
        refine W.eq (g2 := F0 m 22 ls [.int v12]) (by rw [ev12]) ?_
        refine lv_istore (lv' := [(5, .int v12), (4, .int v5), (3, .int v2), (0, .ref (Z.2.2 26 0)), (1, .int p0), (2, .int p1)]) hx hb dX7_loses_22 hl (by decide) rfl (fun ls hl => ?_)
        refine lv_aload_n hx hb dX7_loses_24 rfl (lv_at hl 3 rfl) ?_
        refine gf_RX7_95 hx hb hts hown hK hP (by decide) dX7_loses_25 ?_
        refine lv_iload hx hb dX7_loses_28 (lv_at hl 0 rfl) ?_
        refine lv_iload hx hb dX7_loses_30 (lv_at hl 1 rfl) ?_
        refine lv_aload_n hx hb dX7_loses_32 rfl (lv_at hl 3 rfl) ?_
        refine gf_RX7_60 hx hb hts hown hK hP (by decide) dX7_loses_33 ?_
        refine lv_iload_n hx hb dX7_loses_36 rfl (lv_at hl 2 rfl) ?_
        obtain ⟨hg13, hk⟩ := gd_s hk
        refine wa_iaload_33 hx hb hK hP (by decide) hg13 dX7_loses_37 ?_
        have jn16 : ∀ (v14 : Int32) (M15 : SS) (H : Heap) (locs : List Loc) (ls : Array Slot), f_X7_loses_J52 (f_X7_loses_L10 p0 v2 n) k3 v12 v2 v5 v14 M15 = some (Mz, r) → wP Z (X, M15, O) H → va_S (wA Z s.heap.size) s.heap H locs → lv_has ls 6 [(5, .int v12), (4, .int v5), (3, .int v2), (0, .ref (Z.2.2 26 0)), (1, .int p0), (2, .int p1)] → W p l e (headSpec ws_X7_loses rm_X7_loses).room s m args below meth c H locs 0 0 (vx_MQ below (cQv Z (X, Mz, O) (.inl ()) s.heap.size) (cX Z (X, Mz, O) (.inl () : Unit ⊕ String) s.heap.size) args s 0 0 (wA Z s.heap.size)) (F0 m 52 ls [.int v14, .int v12, .ref (Z.2.2 44 0)]) := by
          intro v14 M15 H locs ls hk hP hS hl
          unfold f_X7_loses_J52 at hk
          obtain ⟨hg17, hk⟩ := gd_s hk
          obtain ⟨M18, eM18, hk⟩ := lq_s hk
          refine wa_iastore_44 hx hb hZ hK hP hS (by decide) hg17 dX7_loses_52 (fun H locs hP hS => ?_)
          rw [← eM18] at hP
          refine lv_aload_n hx hb dX7_loses_53 rfl (lv_at hl 3 rfl) ?_
          refine gf_RX7_98 hx hb hts hown hK hP (by decide) dX7_loses_54 ?_
          refine lv_iload hx hb dX7_loses_57 (lv_at hl 0 rfl) ?_
          refine lv_aload_n hx hb dX7_loses_59 rfl (lv_at hl 3 rfl) ?_
          refine gf_RX7_75 hx hb hts hown hK hP (by decide) dX7_loses_60 ?_
          refine lv_iconst (v := (5 : Int32)) hx hb dX7_loses_63 (by decide) ?_
          refine lv_iload_n hx hb dX7_loses_64 rfl (lv_at hl 2 rfl) ?_
          refine lv_imul hx hb dX7_loses_65 ?_
          refine lv_iload hx hb dX7_loses_66 (lv_at hl 1 rfl) ?_
          refine lv_iadd hx hb dX7_loses_68 ?_
          obtain ⟨hg19, hk⟩ := gd_s hk
          refine wa_iaload_38 hx hb hK hP (by decide) hg19 dX7_loses_69 ?_
          obtain ⟨hg20, hk⟩ := gd_s hk
          obtain ⟨M21, eM21, hk⟩ := lq_s hk
          refine wa_iastore_45 hx hb hZ hK hP hS (by decide) hg20 dX7_loses_70 (fun H locs hP hS => ?_)
          rw [← eM21] at hP
          refine lv_iinc (v := (v5 + (1 : Int32))) (lv' := [(4, .int (v5 + (1 : Int32))), (5, .int v12), (3, .int v2), (0, .ref (Z.2.2 26 0)), (1, .int p0), (2, .int p1)]) hx hb dX7_loses_71 hl (k := 1) rfl rfl (by decide) rfl (fun ls hl => ?_)
          refine lv_goto (tgt := 10) hx hb dX7_loses_74 (by decide) ?_
          exact ih (v5 + (1 : Int32)) M21 _ _ _ hk hP hS (lv_sub hl [0, 2, 3, 4, 5] rfl)
        refine lv_icmp_ge (tgt := 51) hx hb dX7_loses_38 (by decide) (fun cz22 => ?_) (fun cz22 => ?_)
        · have hk := it_t cz22 hk
          refine lv_iconst (v := ((-1) : Int32)) hx hb dX7_loses_51 (by decide) ?_
          exact jn16 ((-1) : Int32) M6 _ _ _ hk hP hS (lv_sub hl [0, 1, 2, 3, 4, 5] rfl)
        · have hk := it_f cz22 hk
          refine lv_aload_n hx hb dX7_loses_41 rfl (lv_at hl 3 rfl) ?_
          refine lv_iload_n hx hb dX7_loses_42 rfl (lv_at hl 4 rfl) ?_
          refine lv_iload hx hb dX7_loses_43 (lv_at hl 1 rfl) ?_
          obtain ⟨M24, v23, hf25, hk⟩ := b1_s hk
          refine wc_iV0 (rest := [.int v12, .ref (Z.2.2 44 0)]) (As := [.int p0, .int v5]) ⟨hx, hb, hml, hown, hts⟩ (fun sz => k_X7_stepsOf l hfl Z hZ X M6 O p0 v5 M24 v23 hf25 sz) (cw_RX7_236 (args := args) (s := s) hts (Nat.le_of_ble_eq_true rfl) (Nat.le_of_ble_eq_true rfl)) hE hP hK hS (rv_26 hK hP (by decide)) rfl hl.1 rfl (Nat.le_of_ble_eq_true rfl) dX7_loses_45 ⟨Nat.le_of_ble_eq_true rfl, Nat.le_of_ble_eq_true rfl⟩ (fun H locs hP hS => ?_)
          refine lv_goto (tgt := 52) hx hb dX7_loses_48 (by decide) ?_
          exact jn16 v23 M24 _ _ _ hk hP hS (lv_sub hl [0, 1, 2, 3, 4, 5] rfl)
  exact lp3 1000 (0 : Int32) M _ _ _ hk hP hS (lv_sub hl [0, 1, 2, 3, 4] rfl)
set_option maxHeartbeats 4000000 in
set_option maxRecDepth 100000 in
theorem k_X7_drops (l : Launch) (hfl : l.stackTraces = false) (Z : ZT) (hZ : wD Z) (X M O : SS) (p0 : Int32) (Mz : SS) (r : Unit) (hf : f_X7_drops M p0 = some (Mz, r)) (sz : Nat) : vx_Met l yX7_drops ws_X7_drops rm_X7_drops (va_Pc [.ref (Z.2.2 26 0), .int p0] (cP Z (X, M, O) sz)) (cQv Z (X, Mz, O) (.inl ()) sz) (cX Z (X, Mz, O) (.inl () : Unit ⊕ String) sz) 0 0 (wA Z sz) := by
  refine vx_ofW (cc := cX7_drops) (maxL := 2) (ret := none) (by decide) rfl ?_
  intro p e s m args below meth c s₁ B hml htab hv
  obtain ⟨hargs, hsz, hE, hP, hK⟩ := hv
  have hx := B.exec
  have hb := B.bytes
  have hr := B.returns
  have hts0 := atoms_spec (ws := ws_X7_drops) B.pre
  have hts : ∀ w ∈ lw_all, w.before args s = true := fun w h => hts0 w (List.mem_cons_of_mem _ h)
  have hown : s.vm.findClass RX7 = some m.cls := findClass_of_methodNamed B.named
  have hlocks := B.notSynchronized
  have hout9 : ∀ (pc9 : Nat), ∀ x ∈ c.exceptionTable.toList, covers x pc9 = false := fun _ x hx9 => (htab x hx9).elim
  subst hsz
  have hS : va_S (wA Z s.heap.size) s.heap s.heap [] := va_S.rf
  have hl := lv_entry ([.ref (Z.2.2 26 0), .int p0]) (n := 2) (Nat.le_of_ble_eq_true rfl)
  have hen : entryFrame m args 2 = entryFrame m ([.ref (Z.2.2 26 0), .int p0] : List Value).toArray 2 := by rw [hargs]
  rw [hen, lg_entry_eq]
  generalize (lg_sl ([.ref (Z.2.2 26 0), .int p0]) ++ List.replicate (2 - (lg_sl ([.ref (Z.2.2 26 0), .int p0])).length) Slot.unset).toArray = ls at hl ⊢
  have hl : lv_has ls 2 [(0, .ref (Z.2.2 26 0)), (1, .int p0)] := hl
  have hk := hf
  unfold f_X7_drops at hk
  refine lv_aload_n hx hb dX7_drops_0 rfl (lv_at hl 0 rfl) ?_
  refine lv_iload_n hx hb dX7_drops_1 rfl (lv_at hl 1 rfl) ?_
  refine lv_aload_n hx hb dX7_drops_2 rfl (lv_at hl 0 rfl) ?_
  refine gf_RX7_88 hx hb hts hown hK hP (by decide) dX7_drops_3 ?_
  refine lv_iload_n hx hb dX7_drops_6 rfl (lv_at hl 1 rfl) ?_
  obtain ⟨hg1, hk⟩ := gd_s hk
  refine wa_caload_42 hx hb hK hP (by decide) hg1 dX7_drops_7 ?_
  refine lv_bipush (v := (102 : Int32)) hx hb dX7_drops_8 (by decide) ?_
  refine lv_icmp_ne (tgt := 18) hx hb dX7_drops_10 (by decide) (fun cz2 => ?_) (fun cz2 => ?_)
  · have hk := it_f cz2 hk
    refine lv_bipush (v := (112 : Int32)) hx hb dX7_drops_18 (by decide) ?_
    obtain ⟨M4, v3, hf5, hk⟩ := b1_s hk
    refine wc_vV0 (rest := []) (As := [.int p0, .int (112 : Int32)]) ⟨hx, hb, hml, hown, hts⟩ (fun sz => k_X7_loses l hfl Z hZ X M O p0 (112 : Int32) M4 v3 hf5 sz) (cw_RX7_239 (args := args) (s := s) hts (Nat.le_of_ble_eq_true rfl) (Nat.le_of_ble_eq_true rfl)) hE hP hK hS (rv_26 hK hP (by decide)) rfl hl.1 rfl (Nat.le_of_ble_eq_true rfl) dX7_drops_20 ⟨Nat.le_of_ble_eq_true rfl, Nat.le_of_ble_eq_true rfl⟩ (fun H locs hP hS => ?_)
    cases (show some _ = some _ from hk)
    exact we_v hx hb hr hlocks hP rfl hS dX7_drops_23 (by decide) (by decide)
  · have hk := it_t cz2 hk
    refine lv_bipush (v := (98 : Int32)) hx hb dX7_drops_13 (by decide) ?_
    refine lv_goto (tgt := 20) hx hb dX7_drops_15 (by decide) ?_
    obtain ⟨M7, v6, hf8, hk⟩ := b1_s hk
    refine wc_vV0 (rest := []) (As := [.int p0, .int (98 : Int32)]) ⟨hx, hb, hml, hown, hts⟩ (fun sz => k_X7_loses l hfl Z hZ X M O p0 (98 : Int32) M7 v6 hf8 sz) (cw_RX7_239 (args := args) (s := s) hts (Nat.le_of_ble_eq_true rfl) (Nat.le_of_ble_eq_true rfl)) hE hP hK hS (rv_26 hK hP (by decide)) rfl hl.1 rfl (Nat.le_of_ble_eq_true rfl) dX7_drops_20 ⟨Nat.le_of_ble_eq_true rfl, Nat.le_of_ble_eq_true rfl⟩ (fun H locs hP hS => ?_)
    cases (show some _ = some _ from hk)
    exact we_v hx hb hr hlocks hP rfl hS dX7_drops_23 (by decide) (by decide)
set_option maxHeartbeats 4000000 in
set_option maxRecDepth 100000 in
theorem k_X7_makesRoom (l : Launch) (hfl : l.stackTraces = false) (Z : ZT) (hZ : wD Z) (X M O : SS) (Mz : SS) (r : Int32) (hf : f_X7_makesRoom M = some (Mz, r)) (sz : Nat) : vx_Met l yX7_makesRoom ws_X7_makesRoom rm_X7_makesRoom (va_Pc [.ref (Z.2.2 26 0)] (cP Z (X, M, O) sz)) (cQi Z (X, Mz, O) (.inl r) sz) (cX Z (X, Mz, O) (.inl r : Int32 ⊕ String) sz) 0 0 (wA Z sz) := by
  refine vx_ofW (cc := cX7_makesRoom) (maxL := 4) (ret := (some .int)) (by decide) rfl ?_
  intro p e s m args below meth c s₁ B hml htab hv
  obtain ⟨hargs, hsz, hE, hP, hK⟩ := hv
  have hx := B.exec
  have hb := B.bytes
  have hr := B.returns
  have hts0 := atoms_spec (ws := ws_X7_makesRoom) B.pre
  have hts : ∀ w ∈ lw_all, w.before args s = true := fun w h => hts0 w (List.mem_cons_of_mem _ h)
  have hown : s.vm.findClass RX7 = some m.cls := findClass_of_methodNamed B.named
  have hlocks := B.notSynchronized
  have hout9 : ∀ (pc9 : Nat), ∀ x ∈ c.exceptionTable.toList, covers x pc9 = false := fun _ x hx9 => (htab x hx9).elim
  subst hsz
  have hS : va_S (wA Z s.heap.size) s.heap s.heap [] := va_S.rf
  have hl := lv_entry ([.ref (Z.2.2 26 0)]) (n := 4) (Nat.le_of_ble_eq_true rfl)
  have hen : entryFrame m args 4 = entryFrame m ([.ref (Z.2.2 26 0)] : List Value).toArray 4 := by rw [hargs]
  rw [hen, lg_entry_eq]
  generalize (lg_sl ([.ref (Z.2.2 26 0)]) ++ List.replicate (4 - (lg_sl ([.ref (Z.2.2 26 0)])).length) Slot.unset).toArray = ls at hl ⊢
  have hl : lv_has ls 4 [(0, .ref (Z.2.2 26 0))] := hl
  have hk := hf
  unfold f_X7_makesRoom at hk
  refine lv_iconst (v := (0 : Int32)) hx hb dX7_makesRoom_0 (by decide) ?_
  refine lv_istore_n (lv' := [(1, .int (0 : Int32)), (0, .ref (Z.2.2 26 0))]) hx hb dX7_makesRoom_1 rfl hl (by decide) rfl (fun ls hl => ?_)
  obtain ⟨k1, hk1, hk⟩ := gn hk
  have ex1 : ∀ (v2 : Int32) (M3 : SS) (H : Heap) (locs : List Loc) (ls : Array Slot), k1 v2 M3 = some (Mz, r) → wP Z (X, M3, O) H → va_S (wA Z s.heap.size) s.heap H locs → lv_has ls 4 [(1, .int v2)] → W p l e (headSpec ws_X7_makesRoom rm_X7_makesRoom).room s m args below meth c H locs 0 0 (vx_MQ below (cQi Z (X, Mz, O) (.inl r) s.heap.size) (cX Z (X, Mz, O) (.inl r : Int32 ⊕ String) s.heap.size) args s 0 0 (wA Z s.heap.size)) (F0 m 71 ls []) := by
    intro v2 M3 H locs ls hk hP hS hl
    subst hk1
    refine lv_iload_n hx hb dX7_makesRoom_71 rfl (lv_at hl 0 rfl) ?_
    cases (show some _ = some _ from hk)
    exact we_i hx hb hr hlocks hP rfl hS dX7_makesRoom_72 (by decide) (by decide)
  have lp1 : ∀ (n : Nat) (v4 : Int32) (M5 : SS) (H : Heap) (locs : List Loc) (ls : Array Slot), f_X7_makesRoom_L2  n v4 M5 k1 = some (Mz, r) → wP Z (X, M5, O) H → va_S (wA Z s.heap.size) s.heap H locs → lv_has ls 4 [(1, .int v4), (0, .ref (Z.2.2 26 0))] → W p l e (headSpec ws_X7_makesRoom rm_X7_makesRoom).room s m args below meth c H locs 0 0 (vx_MQ below (cQi Z (X, Mz, O) (.inl r) s.heap.size) (cX Z (X, Mz, O) (.inl r : Int32 ⊕ String) s.heap.size) args s 0 0 (wA Z s.heap.size)) (F0 m 2 ls []) := by
    intro n
    induction n with
    | zero =>
      intro v4 M5 H locs ls hk
      rw [f_X7_makesRoom_L2] at hk
      exact nomatch (show none = some _ from hk)
    | succ n ih =>
      intro v4 M5 H locs ls hk hP hS hl
      rw [f_X7_makesRoom_L2] at hk
      refine lv_aload_n hx hb dX7_makesRoom_2 rfl (lv_at hl 1 rfl) ?_
      obtain ⟨v6, hf7, hk⟩ := b0_s hk
      refine wc_iV0 (rest := []) (As := []) ⟨hx, hb, hml, hown, hts⟩ (fun sz => k_X7_bodyCount l hfl Z hZ X M5 O v6 hf7 sz) (cw_RX7_243 (args := args) (s := s) hts (Nat.le_of_ble_eq_true rfl) (Nat.le_of_ble_eq_true rfl)) hE hP hK hS (rv_26 hK hP (by decide)) rfl hl.1 rfl (Nat.le_of_ble_eq_true rfl) dX7_makesRoom_3 ⟨Nat.le_of_ble_eq_true rfl, Nat.le_of_ble_eq_true rfl⟩ (fun H locs hP hS => ?_)
      refine lv_aload_n hx hb dX7_makesRoom_6 rfl (lv_at hl 1 rfl) ?_
      refine gf_RX7_28 hx hb hts hown hK hP (by decide) dX7_makesRoom_7 ?_
      refine lv_icmp_le (tgt := 71) hx hb dX7_makesRoom_10 (by decide) (fun cz8 => ?_) (fun cz8 => ?_)
      · have hk := it_t cz8 hk
        exact ex1 v4 M5 _ _ _ hk hP hS (lv_sub hl [0] rfl)
      · have hk := it_f cz8 hk
        refine lv_iconst (v := ((-1) : Int32)) hx hb dX7_makesRoom_13 (by decide) ?_
        refine lv_istore_n (lv' := [(2, .int ((-1) : Int32)), (1, .int v4), (0, .ref (Z.2.2 26 0))]) hx hb dX7_makesRoom_14 rfl hl (by decide) rfl (fun ls hl => ?_)
        refine lv_iconst (v := (0 : Int32)) hx hb dX7_makesRoom_15 (by decide) ?_
        refine lv_istore_n (lv' := [(3, .int (0 : Int32)), (2, .int ((-1) : Int32)), (1, .int v4), (0, .ref (Z.2.2 26 0))]) hx hb dX7_makesRoom_16 rfl hl (by decide) rfl (fun ls hl => ?_)
        obtain ⟨k9, hk9, hk⟩ := gn hk
        have ex9 : ∀ (v10 : Int32) (H : Heap) (locs : List Loc) (ls : Array Slot), k9 v10 = some (Mz, r) → wP Z (X, M5, O) H → va_S (wA Z s.heap.size) s.heap H locs → lv_has ls 4 [(2, .int v10), (1, .int v4), (0, .ref (Z.2.2 26 0))] → W p l e (headSpec ws_X7_makesRoom rm_X7_makesRoom).room s m args below meth c H locs 0 0 (vx_MQ below (cQi Z (X, Mz, O) (.inl r) s.heap.size) (cX Z (X, Mz, O) (.inl r : Int32 ⊕ String) s.heap.size) args s 0 0 (wA Z s.heap.size)) (F0 m 60 ls []) := by
          intro v10 H locs ls hk hP hS hl
          subst hk9
          refine lv_aload_n hx hb dX7_makesRoom_60 rfl (lv_at hl 2 rfl) ?_
          refine lv_iload_n hx hb dX7_makesRoom_61 rfl (lv_at hl 0 rfl) ?_
          obtain ⟨M14, v13, hf15, hk⟩ := b1_s hk
          refine wc_vV0 (rest := []) (As := [.int v10]) ⟨hx, hb, hml, hown, hts⟩ (fun sz => k_X7_drops l hfl Z hZ X M5 O v10 M14 v13 hf15 sz) (cw_RX7_249 (args := args) (s := s) hts (Nat.le_of_ble_eq_true rfl) (Nat.le_of_ble_eq_true rfl)) hE hP hK hS (rv_26 hK hP (by decide)) rfl hl.1 rfl (Nat.le_of_ble_eq_true rfl) dX7_makesRoom_62 ⟨Nat.le_of_ble_eq_true rfl, Nat.le_of_ble_eq_true rfl⟩ (fun H locs hP hS => ?_)
          refine lv_iinc (v := (v4 + (1 : Int32))) (lv' := [(1, .int (v4 + (1 : Int32))), (2, .int v10), (0, .ref (Z.2.2 26 0))]) hx hb dX7_makesRoom_65 hl (k := 1) rfl rfl (by decide) rfl (fun ls hl => ?_)
          refine lv_goto (tgt := 2) hx hb dX7_makesRoom_68 (by decide) ?_
          exact ih (v4 + (1 : Int32)) M14 _ _ _ hk hP hS (lv_sub hl [0, 2] rfl)
        have lp9 : ∀ (n : Nat) (v11 : Int32) (v12 : Int32) (H : Heap) (locs : List Loc) (ls : Array Slot), f_X7_makesRoom_L17 M5 n v11 v12 k9 = some (Mz, r) → wP Z (X, M5, O) H → va_S (wA Z s.heap.size) s.heap H locs → lv_has ls 4 [(3, .int v11), (2, .int v12), (1, .int v4), (0, .ref (Z.2.2 26 0))] → W p l e (headSpec ws_X7_makesRoom rm_X7_makesRoom).room s m args below meth c H locs 0 0 (vx_MQ below (cQi Z (X, Mz, O) (.inl r) s.heap.size) (cX Z (X, Mz, O) (.inl r : Int32 ⊕ String) s.heap.size) args s 0 0 (wA Z s.heap.size)) (F0 m 17 ls []) := by
          intro n
          induction n with
          | zero =>
            intro v11 v12 H locs ls hk
            rw [f_X7_makesRoom_L17] at hk
            exact nomatch (show none = some _ from hk)
          | succ n ih =>
            intro v11 v12 H locs ls hk hP hS hl
            rw [f_X7_makesRoom_L17] at hk
            refine lv_iload_n hx hb dX7_makesRoom_17 rfl (lv_at hl 0 rfl) ?_
            refine lv_aload_n hx hb dX7_makesRoom_18 rfl (lv_at hl 3 rfl) ?_
            refine gf_RX7_25 hx hb hts hown hK hP (by decide) dX7_makesRoom_19 ?_
            refine lv_icmp_ge (tgt := 60) hx hb dX7_makesRoom_22 (by decide) (fun cz16 => ?_) (fun cz16 => ?_)
            · have hk := it_t cz16 hk
              exact ex9 v12 _ _ _ hk hP hS (lv_sub hl [1, 2, 3] rfl)
            · have hk := it_f cz16 hk
              refine lv_aload_n hx hb dX7_makesRoom_25 rfl (lv_at hl 3 rfl) ?_
              refine gf_RX7_91 hx hb hts hown hK hP (by decide) dX7_makesRoom_26 ?_
              refine lv_iload_n hx hb dX7_makesRoom_29 rfl (lv_at hl 0 rfl) ?_
              obtain ⟨hg17, hk⟩ := gd_s hk
              refine wa_baload_43 hx hb hK hP (by decide) hg17 dX7_makesRoom_30 ?_
              refine lv_if_eq (tgt := 52) hx hb dX7_makesRoom_31 (by decide) (fun cz18 => ?_) (fun cz18 => ?_)
              · have hk := it_t cz18 hk
                refine lv_iload_n hx hb dX7_makesRoom_52 rfl (lv_at hl 1 rfl) ?_
                refine lv_istore_n (lv' := [(2, .int v12), (3, .int v11), (1, .int v4), (0, .ref (Z.2.2 26 0))]) hx hb dX7_makesRoom_53 rfl hl (by decide) rfl (fun ls hl => ?_)
                refine lv_iinc (v := (v11 + (1 : Int32))) (lv' := [(3, .int (v11 + (1 : Int32))), (2, .int v12), (1, .int v4), (0, .ref (Z.2.2 26 0))]) hx hb dX7_makesRoom_54 hl (k := 1) rfl rfl (by decide) rfl (fun ls hl => ?_)
                refine lv_goto (tgt := 17) hx hb dX7_makesRoom_57 (by decide) ?_
                exact ih (v11 + (1 : Int32)) v12 _ _ _ hk hP hS (lv_sub hl [0, 1, 2, 3] rfl)
              · have hk := it_f cz18 hk
                refine lv_iload_n hx hb dX7_makesRoom_34 rfl (lv_at hl 1 rfl) ?_
                refine lv_iconst (v := ((-1) : Int32)) hx hb dX7_makesRoom_35 (by decide) ?_
                refine lv_icmp_eq (tgt := 48) hx hb dX7_makesRoom_36 (by decide) (fun cz19 => ?_) (fun cz19 => ?_)
                · have hk := it_t cz19 hk
                  refine lv_iload_n hx hb dX7_makesRoom_48 rfl (lv_at hl 0 rfl) ?_
                  refine lv_goto (tgt := 53) hx hb dX7_makesRoom_49 (by decide) ?_
                  refine lv_istore_n (lv' := [(2, .int v11), (3, .int v11), (1, .int v4), (0, .ref (Z.2.2 26 0))]) hx hb dX7_makesRoom_53 rfl hl (by decide) rfl (fun ls hl => ?_)
                  refine lv_iinc (v := (v11 + (1 : Int32))) (lv' := [(3, .int (v11 + (1 : Int32))), (2, .int v11), (1, .int v4), (0, .ref (Z.2.2 26 0))]) hx hb dX7_makesRoom_54 hl (k := 1) rfl rfl (by decide) rfl (fun ls hl => ?_)
                  refine lv_goto (tgt := 17) hx hb dX7_makesRoom_57 (by decide) ?_
                  exact ih (v11 + (1 : Int32)) v11 _ _ _ hk hP hS (lv_sub hl [0, 1, 2, 3] rfl)
                · have hk := it_f cz19 hk
                  refine lv_aload_n hx hb dX7_makesRoom_39 rfl (lv_at hl 3 rfl) ?_
                  refine lv_iload_n hx hb dX7_makesRoom_40 rfl (lv_at hl 0 rfl) ?_
                  refine lv_iload_n hx hb dX7_makesRoom_41 rfl (lv_at hl 1 rfl) ?_
                  obtain ⟨v20, hf21, hk⟩ := b0_s hk
                  refine wc_iV0 (rest := []) (As := [.int v11, .int v12]) ⟨hx, hb, hml, hown, hts⟩ (fun sz => k_X7_isWorse l hfl Z hZ X M5 O v11 v12 v20 hf21 sz) (cw_RX7_246 (args := args) (s := s) hts (Nat.le_of_ble_eq_true rfl) (Nat.le_of_ble_eq_true rfl)) hE hP hK hS (rv_26 hK hP (by decide)) rfl hl.1 rfl (Nat.le_of_ble_eq_true rfl) dX7_makesRoom_42 ⟨Nat.le_of_ble_eq_true rfl, Nat.le_of_ble_eq_true rfl⟩ (fun H locs hP hS => ?_)
                  refine lv_if_eq (tgt := 52) hx hb dX7_makesRoom_45 (by decide) (fun cz22 => ?_) (fun cz22 => ?_)
                  · have hk := it_t cz22 hk
                    refine lv_iload_n hx hb dX7_makesRoom_52 rfl (lv_at hl 1 rfl) ?_
                    refine lv_istore_n (lv' := [(2, .int v12), (3, .int v11), (1, .int v4), (0, .ref (Z.2.2 26 0))]) hx hb dX7_makesRoom_53 rfl hl (by decide) rfl (fun ls hl => ?_)
                    refine lv_iinc (v := (v11 + (1 : Int32))) (lv' := [(3, .int (v11 + (1 : Int32))), (2, .int v12), (1, .int v4), (0, .ref (Z.2.2 26 0))]) hx hb dX7_makesRoom_54 hl (k := 1) rfl rfl (by decide) rfl (fun ls hl => ?_)
                    refine lv_goto (tgt := 17) hx hb dX7_makesRoom_57 (by decide) ?_
                    exact ih (v11 + (1 : Int32)) v12 _ _ _ hk hP hS (lv_sub hl [0, 1, 2, 3] rfl)
                  · have hk := it_f cz22 hk
                    refine lv_iload_n hx hb dX7_makesRoom_48 rfl (lv_at hl 0 rfl) ?_
                    refine lv_goto (tgt := 53) hx hb dX7_makesRoom_49 (by decide) ?_
                    refine lv_istore_n (lv' := [(2, .int v11), (3, .int v11), (1, .int v4), (0, .ref (Z.2.2 26 0))]) hx hb dX7_makesRoom_53 rfl hl (by decide) rfl (fun ls hl => ?_)
                    refine lv_iinc (v := (v11 + (1 : Int32))) (lv' := [(3, .int (v11 + (1 : Int32))), (2, .int v11), (1, .int v4), (0, .ref (Z.2.2 26 0))]) hx hb dX7_makesRoom_54 hl (k := 1) rfl rfl (by decide) rfl (fun ls hl => ?_)
                    refine lv_goto (tgt := 17) hx hb dX7_makesRoom_57 (by decide) ?_
                    exact ih (v11 + (1 : Int32)) v11 _ _ _ hk hP hS (lv_sub hl [0, 1, 2, 3] rfl)
        exact lp9 1000 (0 : Int32) ((-1) : Int32) _ _ _ hk hP hS (lv_sub hl [0, 1, 2, 3] rfl)
  exact lp1 1000 (0 : Int32) M _ _ _ hk hP hS (lv_sub hl [0, 1] rfl)
set_option maxHeartbeats 4000000 in
set_option maxRecDepth 100000 in
theorem k_X7_submit (l : Launch) (hfl : l.stackTraces = false) (Z : ZT) (hZ : wD Z) (X M O : SS) (p0 : Int32) (p1 : Int32) (Mz : SS) (r : Int32) (hf : f_X7_submit M p0 p1 = some (Mz, r)) (sz : Nat) : vx_Met l yX7_submit ws_X7_submit rm_X7_submit (va_Pc [.ref (Z.2.2 26 0), .int p0, .int p1] (cP Z (X, M, O) sz)) (cQi Z (X, Mz, O) (.inl r) sz) (cX Z (X, Mz, O) (.inl r : Int32 ⊕ String) sz) 0 0 (wA Z sz) := by
  refine vx_ofW (cc := cX7_submit) (maxL := 5) (ret := (some .int)) (by decide) rfl ?_
  intro p e s m args below meth c s₁ B hml htab hv
  obtain ⟨hargs, hsz, hE, hP, hK⟩ := hv
  have hx := B.exec
  have hb := B.bytes
  have hr := B.returns
  have hts0 := atoms_spec (ws := ws_X7_submit) B.pre
  have hts : ∀ w ∈ lw_all, w.before args s = true := fun w h => hts0 w (List.mem_cons_of_mem _ h)
  have hown : s.vm.findClass RX7 = some m.cls := findClass_of_methodNamed B.named
  have hlocks := B.notSynchronized
  have hout9 : ∀ (pc9 : Nat), ∀ x ∈ c.exceptionTable.toList, covers x pc9 = false := fun _ x hx9 => (htab x hx9).elim
  subst hsz
  have hS : va_S (wA Z s.heap.size) s.heap s.heap [] := va_S.rf
  have hl := lv_entry ([.ref (Z.2.2 26 0), .int p0, .int p1]) (n := 5) (Nat.le_of_ble_eq_true rfl)
  have hen : entryFrame m args 5 = entryFrame m ([.ref (Z.2.2 26 0), .int p0, .int p1] : List Value).toArray 5 := by rw [hargs]
  rw [hen, lg_entry_eq]
  generalize (lg_sl ([.ref (Z.2.2 26 0), .int p0, .int p1]) ++ List.replicate (5 - (lg_sl ([.ref (Z.2.2 26 0), .int p0, .int p1])).length) Slot.unset).toArray = ls at hl ⊢
  have hl : lv_has ls 5 [(0, .ref (Z.2.2 26 0)), (1, .int p0), (2, .int p1)] := hl
  have hk := hf
  unfold f_X7_submit at hk
  refine lv_aload_n hx hb dX7_submit_0 rfl (lv_at hl 0 rfl) ?_
  refine lv_iload_n hx hb dX7_submit_1 rfl (lv_at hl 1 rfl) ?_
  obtain ⟨v1, hf2, hk⟩ := b0_s hk
  refine wc_iV0 (rest := []) (As := [.int p0]) ⟨hx, hb, hml, hown, hts⟩ (fun sz => k_X7_isMember l hfl Z hZ X M O p0 v1 hf2 sz) (cw_RX7_214 (args := args) (s := s) hts (Nat.le_of_ble_eq_true rfl) (Nat.le_of_ble_eq_true rfl)) hE hP hK hS (rv_26 hK hP (by decide)) rfl hl.1 rfl (Nat.le_of_ble_eq_true rfl) dX7_submit_2 ⟨Nat.le_of_ble_eq_true rfl, Nat.le_of_ble_eq_true rfl⟩ (fun H locs hP hS => ?_)
  refine lv_if_eq (tgt := 16) hx hb dX7_submit_5 (by decide) (fun cz3 => ?_) (fun cz3 => ?_)
  · have hk := it_t cz3 hk
    refine lv_aload_n hx hb dX7_submit_16 rfl (lv_at hl 0 rfl) ?_
    refine lv_iconst (v := (1 : Int32)) hx hb dX7_submit_17 (by decide) ?_
    obtain ⟨M5, v4, hf6, hk⟩ := b1_s hk
    refine wc_iV0 (rest := []) (As := [.int (1 : Int32)]) ⟨hx, hb, hml, hown, hts⟩ (fun sz => k_X7_fails l hfl Z hZ X M O (1 : Int32) M5 v4 hf6 sz) (cw_RX7_165 (args := args) (s := s) hts (Nat.le_of_ble_eq_true rfl) (Nat.le_of_ble_eq_true rfl)) hE hP hK hS (rv_26 hK hP (by decide)) rfl hl.1 rfl (Nat.le_of_ble_eq_true rfl) dX7_submit_18 ⟨Nat.le_of_ble_eq_true rfl, Nat.le_of_ble_eq_true rfl⟩ (fun H locs hP hS => ?_)
    cases (show some _ = some _ from hk)
    exact we_i hx hb hr hlocks hP rfl hS dX7_submit_21 (by decide) (by decide)
  · have hk := it_f cz3 hk
    refine lv_aload_n hx hb dX7_submit_8 rfl (lv_at hl 0 rfl) ?_
    refine lv_iload_n hx hb dX7_submit_9 rfl (lv_at hl 2 rfl) ?_
    obtain ⟨v7, hf8, hk⟩ := b0_s hk
    refine wc_iV0 (rest := []) (As := [.int p1]) ⟨hx, hb, hml, hown, hts⟩ (fun sz => k_X7_isKata l hfl Z hZ X M O p1 v7 hf8 sz) (cw_RX7_192 (args := args) (s := s) hts (Nat.le_of_ble_eq_true rfl) (Nat.le_of_ble_eq_true rfl)) hE hP hK hS (rv_26 hK hP (by decide)) rfl hl.1 rfl (Nat.le_of_ble_eq_true rfl) dX7_submit_10 ⟨Nat.le_of_ble_eq_true rfl, Nat.le_of_ble_eq_true rfl⟩ (fun H locs hP hS => ?_)
    refine lv_if_ne (tgt := 22) hx hb dX7_submit_13 (by decide) (fun cz9 => ?_) (fun cz9 => ?_)
    · have hk := it_f cz9 hk
      refine lv_aload_n hx hb dX7_submit_22 rfl (lv_at hl 0 rfl) ?_
      refine lv_bipush (v := (40 : Int32)) hx hb dX7_submit_23 (by decide) ?_
      obtain ⟨v10, hf11, hk⟩ := b0_s hk
      refine wc_iV0 (rest := []) (As := [.int (40 : Int32)]) ⟨hx, hb, hml, hown, hts⟩ (fun sz => k_X7_isWhole l hfl Z hZ X M O (40 : Int32) v10 hf11 sz) (cw_RX7_211 (args := args) (s := s) hts (Nat.le_of_ble_eq_true rfl) (Nat.le_of_ble_eq_true rfl)) hE hP hK hS (rv_26 hK hP (by decide)) rfl hl.1 rfl (Nat.le_of_ble_eq_true rfl) dX7_submit_25 ⟨Nat.le_of_ble_eq_true rfl, Nat.le_of_ble_eq_true rfl⟩ (fun H locs hP hS => ?_)
      refine lv_if_eq (tgt := 40) hx hb dX7_submit_28 (by decide) (fun cz12 => ?_) (fun cz12 => ?_)
      · have hk := it_t cz12 hk
        refine lv_aload_n hx hb dX7_submit_40 rfl (lv_at hl 0 rfl) ?_
        refine lv_iconst (v := (2 : Int32)) hx hb dX7_submit_41 (by decide) ?_
        obtain ⟨M14, v13, hf15, hk⟩ := b1_s hk
        refine wc_iV0 (rest := []) (As := [.int (2 : Int32)]) ⟨hx, hb, hml, hown, hts⟩ (fun sz => k_X7_fails l hfl Z hZ X M O (2 : Int32) M14 v13 hf15 sz) (cw_RX7_165 (args := args) (s := s) hts (Nat.le_of_ble_eq_true rfl) (Nat.le_of_ble_eq_true rfl)) hE hP hK hS (rv_26 hK hP (by decide)) rfl hl.1 rfl (Nat.le_of_ble_eq_true rfl) dX7_submit_42 ⟨Nat.le_of_ble_eq_true rfl, Nat.le_of_ble_eq_true rfl⟩ (fun H locs hP hS => ?_)
        cases (show some _ = some _ from hk)
        exact we_i hx hb hr hlocks hP rfl hS dX7_submit_45 (by decide) (by decide)
      · have hk := it_f cz12 hk
        refine lv_aload_n hx hb dX7_submit_31 rfl (lv_at hl 0 rfl) ?_
        refine gf_RX7_60 hx hb hts hown hK hP (by decide) dX7_submit_32 ?_
        refine lv_iload_n hx hb dX7_submit_35 rfl (lv_at hl 2 rfl) ?_
        obtain ⟨hg16, hk⟩ := gd_s hk
        refine wa_iaload_33 hx hb hK hP (by decide) hg16 dX7_submit_36 ?_
        refine lv_if_ne (tgt := 46) hx hb dX7_submit_37 (by decide) (fun cz17 => ?_) (fun cz17 => ?_)
        · have hk := it_f cz17 hk
          refine lv_aload_n hx hb dX7_submit_46 rfl (lv_at hl 0 rfl) ?_
          refine gf_RX7_25 hx hb hts hown hK hP (by decide) dX7_submit_47 ?_
          refine lv_bipush (v := (40 : Int32)) hx hb dX7_submit_50 (by decide) ?_
          refine lv_icmp_ne (tgt := 61) hx hb dX7_submit_52 (by decide) (fun cz18 => ?_) (fun cz18 => ?_)
          · have hk := it_f cz18 hk
            refine lv_aload_n hx hb dX7_submit_61 rfl (lv_at hl 0 rfl) ?_
            refine lv_bipush (v := (40 : Int32)) hx hb dX7_submit_62 (by decide) ?_
            refine lv_iload_n hx hb dX7_submit_64 rfl (lv_at hl 2 rfl) ?_
            obtain ⟨M20, v19, hf21, hk⟩ := b1_s hk
            refine wc_iV0 (rest := []) (As := [.int (40 : Int32), .int p1]) ⟨hx, hb, hml, hown, hts⟩ (fun sz => k_X7_passes l hfl Z hZ X M O (40 : Int32) p1 M20 v19 hf21 sz) (cw_RX7_196 (args := args) (s := s) hts (Nat.le_of_ble_eq_true rfl) (Nat.le_of_ble_eq_true rfl)) hE hP hK hS (rv_26 hK hP (by decide)) rfl hl.1 rfl (Nat.le_of_ble_eq_true rfl) dX7_submit_65 ⟨Nat.le_of_ble_eq_true rfl, Nat.le_of_ble_eq_true rfl⟩ (fun H locs hP hS => ?_)
            refine lv_if_ne (tgt := 77) hx hb dX7_submit_68 (by decide) (fun cz22 => ?_) (fun cz22 => ?_)
            · have hk := it_f cz22 hk
              refine lv_aload_n hx hb dX7_submit_77 rfl (lv_at hl 0 rfl) ?_
              refine gf_RX7_25 hx hb hts hown hK hP (by decide) dX7_submit_78 ?_
              obtain ⟨v23, ev23, hk⟩ := lq_s hk
              refine W.eq (g2 := F0 m 81 ls [.int v23]) (by rw [ev23]) ?_
              refine lv_istore_n (lv' := [(3, .int v23), (0, .ref (Z.2.2 26 0)), (1, .int p0), (2, .int p1)]) hx hb dX7_submit_81 rfl hl (by decide) rfl (fun ls hl => ?_)
              refine lv_aload_n hx hb dX7_submit_82 rfl (lv_at hl 1 rfl) ?_
              refine lv_bipush (v := (40 : Int32)) hx hb dX7_submit_83 (by decide) ?_
              refine lv_iload_n hx hb dX7_submit_85 rfl (lv_at hl 0 rfl) ?_
              obtain ⟨M25, v24, hf26, hk⟩ := b1_s hk
              refine wc_vV0 (rest := []) (As := [.int (40 : Int32), .int v23]) ⟨hx, hb, hml, hown, hts⟩ (fun sz => k_X7_copies l hfl Z hZ X M20 O (40 : Int32) v23 M25 v24 hf26 sz) (cw_RX7_217 (args := args) (s := s) hts (Nat.le_of_ble_eq_true rfl) (Nat.le_of_ble_eq_true rfl)) hE hP hK hS (rv_26 hK hP (by decide)) rfl hl.1 rfl (Nat.le_of_ble_eq_true rfl) dX7_submit_86 ⟨Nat.le_of_ble_eq_true rfl, Nat.le_of_ble_eq_true rfl⟩ (fun H locs hP hS => ?_)
              refine lv_aload_n hx hb dX7_submit_89 rfl (lv_at hl 1 rfl) ?_
              refine gf_RX7_78 hx hb hts hown hK hP (by decide) dX7_submit_90 ?_
              refine lv_iload_n hx hb dX7_submit_93 rfl (lv_at hl 0 rfl) ?_
              refine lv_iload_n hx hb dX7_submit_94 rfl (lv_at hl 2 rfl) ?_
              obtain ⟨hg27, hk⟩ := gd_s hk
              obtain ⟨M28, eM28, hk⟩ := lq_s hk
              refine wa_iastore_39 hx hb hZ hK hP hS (by decide) hg27 dX7_submit_95 (fun H locs hP hS => ?_)
              rw [← eM28] at hP
              refine lv_aload_n hx hb dX7_submit_96 rfl (lv_at hl 1 rfl) ?_
              refine gf_RX7_81 hx hb hts hown hK hP (by decide) dX7_submit_97 ?_
              refine lv_iload_n hx hb dX7_submit_100 rfl (lv_at hl 0 rfl) ?_
              refine lv_iload_n hx hb dX7_submit_101 rfl (lv_at hl 3 rfl) ?_
              obtain ⟨hg29, hk⟩ := gd_s hk
              obtain ⟨M30, eM30, hk⟩ := lq_s hk
              refine wa_iastore_40 hx hb hZ hK hP hS (by decide) hg29 dX7_submit_102 (fun H locs hP hS => ?_)
              rw [← eM30] at hP
              refine lv_aload_n hx hb dX7_submit_103 rfl (lv_at hl 1 rfl) ?_
              refine gf_RX7_84 hx hb hts hown hK hP (by decide) dX7_submit_104 ?_
              refine lv_iload_n hx hb dX7_submit_107 rfl (lv_at hl 0 rfl) ?_
              refine lv_aload_n hx hb dX7_submit_108 rfl (lv_at hl 1 rfl) ?_
              refine lv_iload_n hx hb dX7_submit_109 rfl (lv_at hl 0 rfl) ?_
              obtain ⟨v31, hf32, hk⟩ := b0_s hk
              refine wc_lV0 (rest := [.int v23, .ref (Z.2.2 41 0)]) (As := [.int v23]) ⟨hx, hb, hml, hown, hts⟩ (fun sz => k_X7_sumOf l hfl Z hZ X M30 O v23 v31 hf32 sz) (cw_RX7_220 (args := args) (s := s) hts (Nat.le_of_ble_eq_true rfl) (Nat.le_of_ble_eq_true rfl)) hE hP hK hS (rv_26 hK hP (by decide)) rfl hl.1 rfl (Nat.le_of_ble_eq_true rfl) dX7_submit_110 ⟨Nat.le_of_ble_eq_true rfl, Nat.le_of_ble_eq_true rfl⟩ (fun H locs hP hS => ?_)
              obtain ⟨hg33, hk⟩ := gd_s hk
              obtain ⟨M34, eM34, hk⟩ := lq_s hk
              refine wa_lastore_41 hx hb hZ hK hP hS (by decide) hg33 dX7_submit_113 (fun H locs hP hS => ?_)
              rw [← eM34] at hP
              refine lv_aload_n hx hb dX7_submit_114 rfl (lv_at hl 1 rfl) ?_
              refine gf_RX7_88 hx hb hts hown hK hP (by decide) dX7_submit_115 ?_
              refine lv_iload_n hx hb dX7_submit_118 rfl (lv_at hl 0 rfl) ?_
              refine lv_bipush (v := (115 : Int32)) hx hb dX7_submit_119 (by decide) ?_
              obtain ⟨hg35, hk⟩ := gd_s hk
              obtain ⟨M36, eM36, hk⟩ := lq_s hk
              refine wa_castore_42 hx hb hZ hK hP hS (by decide) hg35 dX7_submit_121 (fun H locs hP hS => ?_)
              rw [← eM36] at hP
              refine lv_aload_n hx hb dX7_submit_122 rfl (lv_at hl 1 rfl) ?_
              refine gf_RX7_91 hx hb hts hown hK hP (by decide) dX7_submit_123 ?_
              refine lv_iload_n hx hb dX7_submit_126 rfl (lv_at hl 0 rfl) ?_
              refine lv_iconst (v := (1 : Int32)) hx hb dX7_submit_127 (by decide) ?_
              obtain ⟨hg37, hk⟩ := gd_s hk
              obtain ⟨M38, eM38, hk⟩ := lq_s hk
              refine wa_bastore_43 hx hb hZ hK hP hS (by decide) hg37 dX7_submit_128 (fun H locs hP hS => ?_)
              rw [← eM38] at hP
              refine lv_aload_n hx hb dX7_submit_129 rfl (lv_at hl 1 rfl) ?_
              refine lv_dup hx hb dX7_submit_130 rfl ?_
              refine gf_RX7_25 hx hb hts hown hK hP (by decide) dX7_submit_131 ?_
              refine lv_iconst (v := (1 : Int32)) hx hb dX7_submit_134 (by decide) ?_
              refine lv_iadd hx hb dX7_submit_135 ?_
              obtain ⟨M39, eM39, hk⟩ := lq_s hk
              refine pf_RX7_25 hx hb hts hown hZ hK hP hS (by decide) dX7_submit_136 (fun H locs hP hS => ?_)
              rw [← eM39] at hP
              refine lv_aload_n hx hb dX7_submit_139 rfl (lv_at hl 1 rfl) ?_
              obtain ⟨M41, v40, hf42, hk⟩ := b1_s hk
              refine wc_iV0 (rest := []) (As := []) ⟨hx, hb, hml, hown, hts⟩ (fun sz => k_X7_makesRoom l hfl Z hZ X M39 O M41 v40 hf42 sz) (cw_RX7_224 (args := args) (s := s) hts (Nat.le_of_ble_eq_true rfl) (Nat.le_of_ble_eq_true rfl)) hE hP hK hS (rv_26 hK hP (by decide)) rfl hl.1 rfl (Nat.le_of_ble_eq_true rfl) dX7_submit_140 ⟨Nat.le_of_ble_eq_true rfl, Nat.le_of_ble_eq_true rfl⟩ (fun H locs hP hS => ?_)
              refine lv_istore (lv' := [(4, .int v40), (3, .int v23), (0, .ref (Z.2.2 26 0)), (1, .int p0), (2, .int p1)]) hx hb dX7_submit_143 hl (by decide) rfl (fun ls hl => ?_)
              refine lv_aload_n hx hb dX7_submit_145 rfl (lv_at hl 2 rfl) ?_
              refine lv_iload hx hb dX7_submit_146 (lv_at hl 0 rfl) ?_
              refine lv_if_lt (tgt := 155) hx hb dX7_submit_148 (by decide) (fun cz43 => ?_) (fun cz43 => ?_)
              · have hk := it_t cz43 hk
                refine lv_iconst (v := ((-1) : Int32)) hx hb dX7_submit_155 (by decide) ?_
                obtain ⟨M45, v44, hf46, hk⟩ := b1_s hk
                refine wc_iV0 (rest := []) (As := [.int ((-1) : Int32)]) ⟨hx, hb, hml, hown, hts⟩ (fun sz => k_X7_tells l hfl Z hZ X M41 O ((-1) : Int32) M45 v44 hf46 sz) (cw_RX7_169 (args := args) (s := s) hts (Nat.le_of_ble_eq_true rfl) (Nat.le_of_ble_eq_true rfl)) hE hP hK hS (rv_26 hK hP (by decide)) rfl hl.1 rfl (Nat.le_of_ble_eq_true rfl) dX7_submit_156 ⟨Nat.le_of_ble_eq_true rfl, Nat.le_of_ble_eq_true rfl⟩ (fun H locs hP hS => ?_)
                cases (show some _ = some _ from hk)
                exact we_i hx hb hr hlocks hP rfl hS dX7_submit_159 (by decide) (by decide)
              · have hk := it_f cz43 hk
                refine lv_iload_n hx hb dX7_submit_151 rfl (lv_at hl 1 rfl) ?_
                refine lv_goto (tgt := 156) hx hb dX7_submit_152 (by decide) ?_
                obtain ⟨M48, v47, hf49, hk⟩ := b1_s hk
                refine wc_iV0 (rest := []) (As := [.int v23]) ⟨hx, hb, hml, hown, hts⟩ (fun sz => k_X7_tells l hfl Z hZ X M41 O v23 M48 v47 hf49 sz) (cw_RX7_169 (args := args) (s := s) hts (Nat.le_of_ble_eq_true rfl) (Nat.le_of_ble_eq_true rfl)) hE hP hK hS (rv_26 hK hP (by decide)) rfl hl.1 rfl (Nat.le_of_ble_eq_true rfl) dX7_submit_156 ⟨Nat.le_of_ble_eq_true rfl, Nat.le_of_ble_eq_true rfl⟩ (fun H locs hP hS => ?_)
                cases (show some _ = some _ from hk)
                exact we_i hx hb hr hlocks hP rfl hS dX7_submit_159 (by decide) (by decide)
            · have hk := it_t cz22 hk
              refine lv_aload_n hx hb dX7_submit_71 rfl (lv_at hl 0 rfl) ?_
              refine lv_iconst (v := ((-1) : Int32)) hx hb dX7_submit_72 (by decide) ?_
              obtain ⟨M51, v50, hf52, hk⟩ := b1_s hk
              refine wc_iV0 (rest := []) (As := [.int ((-1) : Int32)]) ⟨hx, hb, hml, hown, hts⟩ (fun sz => k_X7_tells l hfl Z hZ X M20 O ((-1) : Int32) M51 v50 hf52 sz) (cw_RX7_169 (args := args) (s := s) hts (Nat.le_of_ble_eq_true rfl) (Nat.le_of_ble_eq_true rfl)) hE hP hK hS (rv_26 hK hP (by decide)) rfl hl.1 rfl (Nat.le_of_ble_eq_true rfl) dX7_submit_73 ⟨Nat.le_of_ble_eq_true rfl, Nat.le_of_ble_eq_true rfl⟩ (fun H locs hP hS => ?_)
              cases (show some _ = some _ from hk)
              exact we_i hx hb hr hlocks hP rfl hS dX7_submit_76 (by decide) (by decide)
          · have hk := it_t cz18 hk
            refine lv_aload_n hx hb dX7_submit_55 rfl (lv_at hl 0 rfl) ?_
            refine lv_iconst (v := (3 : Int32)) hx hb dX7_submit_56 (by decide) ?_
            obtain ⟨M54, v53, hf55, hk⟩ := b1_s hk
            refine wc_iV0 (rest := []) (As := [.int (3 : Int32)]) ⟨hx, hb, hml, hown, hts⟩ (fun sz => k_X7_fails l hfl Z hZ X M O (3 : Int32) M54 v53 hf55 sz) (cw_RX7_165 (args := args) (s := s) hts (Nat.le_of_ble_eq_true rfl) (Nat.le_of_ble_eq_true rfl)) hE hP hK hS (rv_26 hK hP (by decide)) rfl hl.1 rfl (Nat.le_of_ble_eq_true rfl) dX7_submit_57 ⟨Nat.le_of_ble_eq_true rfl, Nat.le_of_ble_eq_true rfl⟩ (fun H locs hP hS => ?_)
            cases (show some _ = some _ from hk)
            exact we_i hx hb hr hlocks hP rfl hS dX7_submit_60 (by decide) (by decide)
        · have hk := it_t cz17 hk
          refine lv_aload_n hx hb dX7_submit_40 rfl (lv_at hl 0 rfl) ?_
          refine lv_iconst (v := (2 : Int32)) hx hb dX7_submit_41 (by decide) ?_
          obtain ⟨M57, v56, hf58, hk⟩ := b1_s hk
          refine wc_iV0 (rest := []) (As := [.int (2 : Int32)]) ⟨hx, hb, hml, hown, hts⟩ (fun sz => k_X7_fails l hfl Z hZ X M O (2 : Int32) M57 v56 hf58 sz) (cw_RX7_165 (args := args) (s := s) hts (Nat.le_of_ble_eq_true rfl) (Nat.le_of_ble_eq_true rfl)) hE hP hK hS (rv_26 hK hP (by decide)) rfl hl.1 rfl (Nat.le_of_ble_eq_true rfl) dX7_submit_42 ⟨Nat.le_of_ble_eq_true rfl, Nat.le_of_ble_eq_true rfl⟩ (fun H locs hP hS => ?_)
          cases (show some _ = some _ from hk)
          exact we_i hx hb hr hlocks hP rfl hS dX7_submit_45 (by decide) (by decide)
    · have hk := it_t cz9 hk
      refine lv_aload_n hx hb dX7_submit_16 rfl (lv_at hl 0 rfl) ?_
      refine lv_iconst (v := (1 : Int32)) hx hb dX7_submit_17 (by decide) ?_
      obtain ⟨M60, v59, hf61, hk⟩ := b1_s hk
      refine wc_iV0 (rest := []) (As := [.int (1 : Int32)]) ⟨hx, hb, hml, hown, hts⟩ (fun sz => k_X7_fails l hfl Z hZ X M O (1 : Int32) M60 v59 hf61 sz) (cw_RX7_165 (args := args) (s := s) hts (Nat.le_of_ble_eq_true rfl) (Nat.le_of_ble_eq_true rfl)) hE hP hK hS (rv_26 hK hP (by decide)) rfl hl.1 rfl (Nat.le_of_ble_eq_true rfl) dX7_submit_18 ⟨Nat.le_of_ble_eq_true rfl, Nat.le_of_ble_eq_true rfl⟩ (fun H locs hP hS => ?_)
      cases (show some _ = some _ from hk)
      exact we_i hx hb hr hlocks hP rfl hS dX7_submit_21 (by decide) (by decide)
set_option maxHeartbeats 4000000 in
set_option maxRecDepth 100000 in
theorem k_X7_works (l : Launch) (hfl : l.stackTraces = false) (Z : ZT) (hZ : wD Z) (X M O : SS) (Mz : SS) (r : Int32) (hf : f_X7_works M = some (Mz, r)) (sz : Nat) : vx_Met l yX7_works ws_X7_works rm_X7_works (va_Pc [.ref (Z.2.2 26 0)] (cP Z (X, M, O) sz)) (cQi Z (X, Mz, O) (.inl r) sz) (cX Z (X, Mz, O) (.inl r : Int32 ⊕ String) sz) 0 0 (wA Z sz) := by
  refine vx_ofW (cc := cX7_works) (maxL := 1) (ret := (some .int)) (by decide) rfl ?_
  intro p e s m args below meth c s₁ B hml htab hv
  obtain ⟨hargs, hsz, hE, hP, hK⟩ := hv
  have hx := B.exec
  have hb := B.bytes
  have hr := B.returns
  have hts0 := atoms_spec (ws := ws_X7_works) B.pre
  have hts : ∀ w ∈ lw_all, w.before args s = true := fun w h => hts0 w (List.mem_cons_of_mem _ h)
  have hown : s.vm.findClass RX7 = some m.cls := findClass_of_methodNamed B.named
  have hlocks := B.notSynchronized
  have hout9 : ∀ (pc9 : Nat), ∀ x ∈ c.exceptionTable.toList, covers x pc9 = false := fun _ x hx9 => (htab x hx9).elim
  subst hsz
  have hS : va_S (wA Z s.heap.size) s.heap s.heap [] := va_S.rf
  have hl := lv_entry ([.ref (Z.2.2 26 0)]) (n := 1) (Nat.le_of_ble_eq_true rfl)
  have hen : entryFrame m args 1 = entryFrame m ([.ref (Z.2.2 26 0)] : List Value).toArray 1 := by rw [hargs]
  rw [hen, lg_entry_eq]
  generalize (lg_sl ([.ref (Z.2.2 26 0)]) ++ List.replicate (1 - (lg_sl ([.ref (Z.2.2 26 0)])).length) Slot.unset).toArray = ls at hl ⊢
  have hl : lv_has ls 1 [(0, .ref (Z.2.2 26 0))] := hl
  have hk := hf
  unfold f_X7_works at hk
  refine lv_aload_n hx hb dX7_works_0 rfl (lv_at hl 0 rfl) ?_
  refine lv_aload_n hx hb dX7_works_1 rfl (lv_at hl 0 rfl) ?_
  refine gf_RX7_25 hx hb hts hown hK hP (by decide) dX7_works_2 ?_
  obtain ⟨M2, v1, hf3, hk⟩ := b1_s hk
  refine wc_iV0 (rest := []) (As := [.int (M.1 26 0 5)]) ⟨hx, hb, hml, hown, hts⟩ (fun sz => k_X7_tells l hfl Z hZ X M O (M.1 26 0 5) M2 v1 hf3 sz) (cw_RX7_169 (args := args) (s := s) hts (Nat.le_of_ble_eq_true rfl) (Nat.le_of_ble_eq_true rfl)) hE hP hK hS (rv_26 hK hP (by decide)) rfl hl.1 rfl (Nat.le_of_ble_eq_true rfl) dX7_works_5 ⟨Nat.le_of_ble_eq_true rfl, Nat.le_of_ble_eq_true rfl⟩ (fun H locs hP hS => ?_)
  cases (show some _ = some _ from hk)
  exact we_i hx hb hr hlocks hP rfl hS dX7_works_8 (by decide) (by decide)
set_option maxHeartbeats 4000000 in
set_option maxRecDepth 100000 in
theorem k_X7_votesOf (l : Launch) (hfl : l.stackTraces = false) (Z : ZT) (hZ : wD Z) (X M O : SS) (p0 : Int32) (r : Int32) (hf : f_X7_votesOf M p0 = some (r)) (sz : Nat) : vx_Met l yX7_votesOf ws_X7_votesOf rm_X7_votesOf (va_Pc [.ref (Z.2.2 26 0), .int p0] (cP Z (X, M, O) sz)) (cQi Z (X, M, O) (.inl r) sz) (cX Z (X, M, O) (.inl r : Int32 ⊕ String) sz) 0 0 (wA Z sz) := by
  refine vx_ofW (cc := cX7_votesOf) (maxL := 4) (ret := (some .int)) (by decide) rfl ?_
  intro p e s m args below meth c s₁ B hml htab hv
  obtain ⟨hargs, hsz, hE, hP, hK⟩ := hv
  have hx := B.exec
  have hb := B.bytes
  have hr := B.returns
  have hts0 := atoms_spec (ws := ws_X7_votesOf) B.pre
  have hts : ∀ w ∈ lw_all, w.before args s = true := fun w h => hts0 w (List.mem_cons_of_mem _ h)
  have hown : s.vm.findClass RX7 = some m.cls := findClass_of_methodNamed B.named
  have hlocks := B.notSynchronized
  have hout9 : ∀ (pc9 : Nat), ∀ x ∈ c.exceptionTable.toList, covers x pc9 = false := fun _ x hx9 => (htab x hx9).elim
  subst hsz
  have hS : va_S (wA Z s.heap.size) s.heap s.heap [] := va_S.rf
  have hl := lv_entry ([.ref (Z.2.2 26 0), .int p0]) (n := 4) (Nat.le_of_ble_eq_true rfl)
  have hen : entryFrame m args 4 = entryFrame m ([.ref (Z.2.2 26 0), .int p0] : List Value).toArray 4 := by rw [hargs]
  rw [hen, lg_entry_eq]
  generalize (lg_sl ([.ref (Z.2.2 26 0), .int p0]) ++ List.replicate (4 - (lg_sl ([.ref (Z.2.2 26 0), .int p0])).length) Slot.unset).toArray = ls at hl ⊢
  have hl : lv_has ls 4 [(0, .ref (Z.2.2 26 0)), (1, .int p0)] := hl
  have hk := hf
  unfold f_X7_votesOf at hk
  refine lv_iconst (v := (0 : Int32)) hx hb dX7_votesOf_0 (by decide) ?_
  refine lv_istore_n (lv' := [(2, .int (0 : Int32)), (0, .ref (Z.2.2 26 0)), (1, .int p0)]) hx hb dX7_votesOf_1 rfl hl (by decide) rfl (fun ls hl => ?_)
  refine lv_iconst (v := (0 : Int32)) hx hb dX7_votesOf_2 (by decide) ?_
  refine lv_istore_n (lv' := [(3, .int (0 : Int32)), (2, .int (0 : Int32)), (0, .ref (Z.2.2 26 0)), (1, .int p0)]) hx hb dX7_votesOf_3 rfl hl (by decide) rfl (fun ls hl => ?_)
  obtain ⟨k1, hk1, hk⟩ := gn hk
  have ex1 : ∀ (v2 : Int32) (H : Heap) (locs : List Loc) (ls : Array Slot), k1 v2 = some (r) → wP Z (X, M, O) H → va_S (wA Z s.heap.size) s.heap H locs → lv_has ls 4 [(2, .int v2)] → W p l e (headSpec ws_X7_votesOf rm_X7_votesOf).room s m args below meth c H locs 0 0 (vx_MQ below (cQi Z (X, M, O) (.inl r) s.heap.size) (cX Z (X, M, O) (.inl r : Int32 ⊕ String) s.heap.size) args s 0 0 (wA Z s.heap.size)) (F0 m 38 ls []) := by
    intro v2 H locs ls hk hP hS hl
    subst hk1
    refine lv_iload_n hx hb dX7_votesOf_38 rfl (lv_at hl 0 rfl) ?_
    cases (show some _ = some _ from hk)
    exact we_i hx hb hr hlocks hP rfl hS dX7_votesOf_39 (by decide) (by decide)
  have lp1 : ∀ (n : Nat) (v3 : Int32) (v4 : Int32) (H : Heap) (locs : List Loc) (ls : Array Slot), f_X7_votesOf_L4 p0 M n v3 v4 k1 = some (r) → wP Z (X, M, O) H → va_S (wA Z s.heap.size) s.heap H locs → lv_has ls 4 [(3, .int v3), (2, .int v4), (0, .ref (Z.2.2 26 0)), (1, .int p0)] → W p l e (headSpec ws_X7_votesOf rm_X7_votesOf).room s m args below meth c H locs 0 0 (vx_MQ below (cQi Z (X, M, O) (.inl r) s.heap.size) (cX Z (X, M, O) (.inl r : Int32 ⊕ String) s.heap.size) args s 0 0 (wA Z s.heap.size)) (F0 m 4 ls []) := by
    intro n
    induction n with
    | zero =>
      intro v3 v4 H locs ls hk
      rw [f_X7_votesOf_L4] at hk
      exact nomatch (show none = some _ from hk)
    | succ n ih =>
      intro v3 v4 H locs ls hk hP hS hl
      rw [f_X7_votesOf_L4] at hk
      refine lv_iload_n hx hb dX7_votesOf_4 rfl (lv_at hl 0 rfl) ?_
      refine lv_bipush (v := (10 : Int32)) hx hb dX7_votesOf_5 (by decide) ?_
      refine lv_icmp_ge (tgt := 38) hx hb dX7_votesOf_7 (by decide) (fun cz5 => ?_) (fun cz5 => ?_)
      · have hk := it_t cz5 hk
        exact ex1 v4 _ _ _ hk hP hS (lv_sub hl [1] rfl)
      · have hk := it_f cz5 hk
        refine lv_iload_n hx hb dX7_votesOf_10 rfl (lv_at hl 1 rfl) ?_
        refine lv_aload_n hx hb dX7_votesOf_11 rfl (lv_at hl 2 rfl) ?_
        refine gf_RX7_101 hx hb hts hown hK hP (by decide) dX7_votesOf_12 ?_
        refine lv_bipush (v := (10 : Int32)) hx hb dX7_votesOf_15 (by decide) ?_
        refine lv_iload_n hx hb dX7_votesOf_17 rfl (lv_at hl 3 rfl) ?_
        refine lv_imul hx hb dX7_votesOf_18 ?_
        refine lv_iload_n hx hb dX7_votesOf_19 rfl (lv_at hl 0 rfl) ?_
        refine lv_iadd hx hb dX7_votesOf_20 ?_
        obtain ⟨hg6, hk⟩ := gd_s hk
        refine wa_iaload_46 hx hb hK hP (by decide) hg6 dX7_votesOf_21 ?_
        refine lv_if_le (tgt := 29) hx hb dX7_votesOf_22 (by decide) (fun cz7 => ?_) (fun cz7 => ?_)
        · have hk := it_t cz7 hk
          refine lv_iconst (v := (0 : Int32)) hx hb dX7_votesOf_29 (by decide) ?_
          refine lv_iadd hx hb dX7_votesOf_30 ?_
          obtain ⟨v8, ev8, hk⟩ := lq_s hk
          refine W.eq (g2 := F0 m 31 ls [.int v8]) (by rw [ev8]) ?_
          refine lv_istore_n (lv' := [(2, .int v8), (3, .int v3), (0, .ref (Z.2.2 26 0)), (1, .int p0)]) hx hb dX7_votesOf_31 rfl hl (by decide) rfl (fun ls hl => ?_)
          refine lv_iinc (v := (v3 + (1 : Int32))) (lv' := [(3, .int (v3 + (1 : Int32))), (2, .int v8), (0, .ref (Z.2.2 26 0)), (1, .int p0)]) hx hb dX7_votesOf_32 hl (k := 1) rfl rfl (by decide) rfl (fun ls hl => ?_)
          refine lv_goto (tgt := 4) hx hb dX7_votesOf_35 (by decide) ?_
          exact ih (v3 + (1 : Int32)) v8 _ _ _ hk hP hS (lv_sub hl [0, 1, 2, 3] rfl)
        · have hk := it_f cz7 hk
          refine lv_iconst (v := (1 : Int32)) hx hb dX7_votesOf_25 (by decide) ?_
          refine lv_goto (tgt := 30) hx hb dX7_votesOf_26 (by decide) ?_
          refine lv_iadd hx hb dX7_votesOf_30 ?_
          obtain ⟨v9, ev9, hk⟩ := lq_s hk
          refine W.eq (g2 := F0 m 31 ls [.int v9]) (by rw [ev9]) ?_
          refine lv_istore_n (lv' := [(2, .int v9), (3, .int v3), (0, .ref (Z.2.2 26 0)), (1, .int p0)]) hx hb dX7_votesOf_31 rfl hl (by decide) rfl (fun ls hl => ?_)
          refine lv_iinc (v := (v3 + (1 : Int32))) (lv' := [(3, .int (v3 + (1 : Int32))), (2, .int v9), (0, .ref (Z.2.2 26 0)), (1, .int p0)]) hx hb dX7_votesOf_32 hl (k := 1) rfl rfl (by decide) rfl (fun ls hl => ?_)
          refine lv_goto (tgt := 4) hx hb dX7_votesOf_35 (by decide) ?_
          exact ih (v3 + (1 : Int32)) v9 _ _ _ hk hP hS (lv_sub hl [0, 1, 2, 3] rfl)
  exact lp1 1000 (0 : Int32) (0 : Int32) _ _ _ hk hP hS (lv_sub hl [0, 1, 2, 3] rfl)
set_option maxHeartbeats 4000000 in
set_option maxRecDepth 100000 in
theorem k_X7_weighed (l : Launch) (hfl : l.stackTraces = false) (Z : ZT) (hZ : wD Z) (X M O : SS) (p0 : Int32) (r : Int32) (hf : f_X7_weighed M p0 = some (r)) (sz : Nat) : vx_Met l yX7_weighed ws_X7_weighed rm_X7_weighed (va_Pc [.ref (Z.2.2 26 0), .int p0] (cP Z (X, M, O) sz)) (cQi Z (X, M, O) (.inl r) sz) (cX Z (X, M, O) (.inl r : Int32 ⊕ String) sz) 0 0 (wA Z sz) := by
  refine vx_ofW (cc := cX7_weighed) (maxL := 4) (ret := (some .int)) (by decide) rfl ?_
  intro p e s m args below meth c s₁ B hml htab hv
  obtain ⟨hargs, hsz, hE, hP, hK⟩ := hv
  have hx := B.exec
  have hb := B.bytes
  have hr := B.returns
  have hts0 := atoms_spec (ws := ws_X7_weighed) B.pre
  have hts : ∀ w ∈ lw_all, w.before args s = true := fun w h => hts0 w (List.mem_cons_of_mem _ h)
  have hown : s.vm.findClass RX7 = some m.cls := findClass_of_methodNamed B.named
  have hlocks := B.notSynchronized
  have hout9 : ∀ (pc9 : Nat), ∀ x ∈ c.exceptionTable.toList, covers x pc9 = false := fun _ x hx9 => (htab x hx9).elim
  subst hsz
  have hS : va_S (wA Z s.heap.size) s.heap s.heap [] := va_S.rf
  have hl := lv_entry ([.ref (Z.2.2 26 0), .int p0]) (n := 4) (Nat.le_of_ble_eq_true rfl)
  have hen : entryFrame m args 4 = entryFrame m ([.ref (Z.2.2 26 0), .int p0] : List Value).toArray 4 := by rw [hargs]
  rw [hen, lg_entry_eq]
  generalize (lg_sl ([.ref (Z.2.2 26 0), .int p0]) ++ List.replicate (4 - (lg_sl ([.ref (Z.2.2 26 0), .int p0])).length) Slot.unset).toArray = ls at hl ⊢
  have hl : lv_has ls 4 [(0, .ref (Z.2.2 26 0)), (1, .int p0)] := hl
  have hk := hf
  unfold f_X7_weighed at hk
  refine lv_iconst (v := (0 : Int32)) hx hb dX7_weighed_0 (by decide) ?_
  refine lv_istore_n (lv' := [(2, .int (0 : Int32)), (0, .ref (Z.2.2 26 0)), (1, .int p0)]) hx hb dX7_weighed_1 rfl hl (by decide) rfl (fun ls hl => ?_)
  refine lv_iconst (v := (0 : Int32)) hx hb dX7_weighed_2 (by decide) ?_
  refine lv_istore_n (lv' := [(3, .int (0 : Int32)), (2, .int (0 : Int32)), (0, .ref (Z.2.2 26 0)), (1, .int p0)]) hx hb dX7_weighed_3 rfl hl (by decide) rfl (fun ls hl => ?_)
  obtain ⟨k1, hk1, hk⟩ := gn hk
  have ex1 : ∀ (v2 : Int32) (H : Heap) (locs : List Loc) (ls : Array Slot), k1 v2 = some (r) → wP Z (X, M, O) H → va_S (wA Z s.heap.size) s.heap H locs → lv_has ls 4 [(2, .int v2)] → W p l e (headSpec ws_X7_weighed rm_X7_weighed).room s m args below meth c H locs 0 0 (vx_MQ below (cQi Z (X, M, O) (.inl r) s.heap.size) (cX Z (X, M, O) (.inl r : Int32 ⊕ String) s.heap.size) args s 0 0 (wA Z s.heap.size)) (F0 m 42 ls []) := by
    intro v2 H locs ls hk hP hS hl
    subst hk1
    refine lv_iload_n hx hb dX7_weighed_42 rfl (lv_at hl 0 rfl) ?_
    cases (show some _ = some _ from hk)
    exact we_i hx hb hr hlocks hP rfl hS dX7_weighed_43 (by decide) (by decide)
  have lp1 : ∀ (n : Nat) (v3 : Int32) (v4 : Int32) (H : Heap) (locs : List Loc) (ls : Array Slot), f_X7_weighed_L4 p0 M n v3 v4 k1 = some (r) → wP Z (X, M, O) H → va_S (wA Z s.heap.size) s.heap H locs → lv_has ls 4 [(3, .int v3), (2, .int v4), (0, .ref (Z.2.2 26 0)), (1, .int p0)] → W p l e (headSpec ws_X7_weighed rm_X7_weighed).room s m args below meth c H locs 0 0 (vx_MQ below (cQi Z (X, M, O) (.inl r) s.heap.size) (cX Z (X, M, O) (.inl r : Int32 ⊕ String) s.heap.size) args s 0 0 (wA Z s.heap.size)) (F0 m 4 ls []) := by
    intro n
    induction n with
    | zero =>
      intro v3 v4 H locs ls hk
      rw [f_X7_weighed_L4] at hk
      exact nomatch (show none = some _ from hk)
    | succ n ih =>
      intro v3 v4 H locs ls hk hP hS hl
      rw [f_X7_weighed_L4] at hk
      refine lv_iload_n hx hb dX7_weighed_4 rfl (lv_at hl 0 rfl) ?_
      refine lv_bipush (v := (10 : Int32)) hx hb dX7_weighed_5 (by decide) ?_
      refine lv_icmp_ge (tgt := 42) hx hb dX7_weighed_7 (by decide) (fun cz5 => ?_) (fun cz5 => ?_)
      · have hk := it_t cz5 hk
        exact ex1 v4 _ _ _ hk hP hS (lv_sub hl [1] rfl)
      · have hk := it_f cz5 hk
        refine lv_iload_n hx hb dX7_weighed_10 rfl (lv_at hl 1 rfl) ?_
        refine lv_aload_n hx hb dX7_weighed_11 rfl (lv_at hl 2 rfl) ?_
        refine gf_RX7_104 hx hb hts hown hK hP (by decide) dX7_weighed_12 ?_
        refine lv_bipush (v := (10 : Int32)) hx hb dX7_weighed_15 (by decide) ?_
        refine lv_iload_n hx hb dX7_weighed_17 rfl (lv_at hl 3 rfl) ?_
        refine lv_imul hx hb dX7_weighed_18 ?_
        refine lv_iload_n hx hb dX7_weighed_19 rfl (lv_at hl 0 rfl) ?_
        refine lv_iadd hx hb dX7_weighed_20 ?_
        obtain ⟨hg6, hk⟩ := gd_s hk
        refine wa_iaload_47 hx hb hK hP (by decide) hg6 dX7_weighed_21 ?_
        refine lv_aload_n hx hb dX7_weighed_22 rfl (lv_at hl 2 rfl) ?_
        refine gf_RX7_101 hx hb hts hown hK hP (by decide) dX7_weighed_23 ?_
        refine lv_bipush (v := (10 : Int32)) hx hb dX7_weighed_26 (by decide) ?_
        refine lv_iload_n hx hb dX7_weighed_28 rfl (lv_at hl 3 rfl) ?_
        refine lv_imul hx hb dX7_weighed_29 ?_
        refine lv_iload_n hx hb dX7_weighed_30 rfl (lv_at hl 0 rfl) ?_
        refine lv_iadd hx hb dX7_weighed_31 ?_
        obtain ⟨hg7, hk⟩ := gd_s hk
        refine wa_iaload_46 hx hb hK hP (by decide) hg7 dX7_weighed_32 ?_
        refine lv_imul hx hb dX7_weighed_33 ?_
        refine lv_iadd hx hb dX7_weighed_34 ?_
        obtain ⟨v8, ev8, hk⟩ := lq_s hk
        refine W.eq (g2 := F0 m 35 ls [.int v8]) (by rw [ev8]) ?_
        refine lv_istore_n (lv' := [(2, .int v8), (3, .int v3), (0, .ref (Z.2.2 26 0)), (1, .int p0)]) hx hb dX7_weighed_35 rfl hl (by decide) rfl (fun ls hl => ?_)
        refine lv_iinc (v := (v3 + (1 : Int32))) (lv' := [(3, .int (v3 + (1 : Int32))), (2, .int v8), (0, .ref (Z.2.2 26 0)), (1, .int p0)]) hx hb dX7_weighed_36 hl (k := 1) rfl rfl (by decide) rfl (fun ls hl => ?_)
        refine lv_goto (tgt := 4) hx hb dX7_weighed_39 (by decide) ?_
        exact ih (v3 + (1 : Int32)) v8 _ _ _ hk hP hS (lv_sub hl [0, 1, 2, 3] rfl)
  exact lp1 1000 (0 : Int32) (0 : Int32) _ _ _ hk hP hS (lv_sub hl [0, 1, 2, 3] rfl)
set_option maxHeartbeats 4000000 in
set_option maxRecDepth 100000 in
theorem k_X7_of (l : Launch) (hfl : l.stackTraces = false) (Z : ZT) (hZ : wD Z) (X M O : SS) (p0 : Int32) (p1 : Int32) (Mz : SS) (r : Int32) (hf : f_X7_of M p0 p1 = some (Mz, r)) (sz : Nat) : vx_Met l yX7_of ws_X7_of rm_X7_of (va_Pc [.ref (Z.2.2 26 0), .int p0, .int p1] (cP Z (X, M, O) sz)) (cQi Z (X, Mz, O) (.inl r) sz) (cX Z (X, Mz, O) (.inl r : Int32 ⊕ String) sz) 0 0 (wA Z sz) := by
  refine vx_ofW (cc := cX7_of) (maxL := 3) (ret := (some .int)) (by decide) rfl ?_
  intro p e s m args below meth c s₁ B hml htab hv
  obtain ⟨hargs, hsz, hE, hP, hK⟩ := hv
  have hx := B.exec
  have hb := B.bytes
  have hr := B.returns
  have hts0 := atoms_spec (ws := ws_X7_of) B.pre
  have hts : ∀ w ∈ lw_all, w.before args s = true := fun w h => hts0 w (List.mem_cons_of_mem _ h)
  have hown : s.vm.findClass RX7 = some m.cls := findClass_of_methodNamed B.named
  have hlocks := B.notSynchronized
  have hout9 : ∀ (pc9 : Nat), ∀ x ∈ c.exceptionTable.toList, covers x pc9 = false := fun _ x hx9 => (htab x hx9).elim
  subst hsz
  have hS : va_S (wA Z s.heap.size) s.heap s.heap [] := va_S.rf
  have hl := lv_entry ([.ref (Z.2.2 26 0), .int p0, .int p1]) (n := 3) (Nat.le_of_ble_eq_true rfl)
  have hen : entryFrame m args 3 = entryFrame m ([.ref (Z.2.2 26 0), .int p0, .int p1] : List Value).toArray 3 := by rw [hargs]
  rw [hen, lg_entry_eq]
  generalize (lg_sl ([.ref (Z.2.2 26 0), .int p0, .int p1]) ++ List.replicate (3 - (lg_sl ([.ref (Z.2.2 26 0), .int p0, .int p1])).length) Slot.unset).toArray = ls at hl ⊢
  have hl : lv_has ls 3 [(0, .ref (Z.2.2 26 0)), (1, .int p0), (2, .int p1)] := hl
  have hk := hf
  unfold f_X7_of at hk
  refine lv_aload_n hx hb dX7_of_0 rfl (lv_at hl 0 rfl) ?_
  refine lv_iload_n hx hb dX7_of_1 rfl (lv_at hl 1 rfl) ?_
  obtain ⟨v1, hf2, hk⟩ := b0_s hk
  refine wc_iV0 (rest := []) (As := [.int p0]) ⟨hx, hb, hml, hown, hts⟩ (fun sz => k_X7_isWork l hfl Z hZ X M O p0 v1 hf2 sz) (cw_RX7_227 (args := args) (s := s) hts (Nat.le_of_ble_eq_true rfl) (Nat.le_of_ble_eq_true rfl)) hE hP hK hS (rv_26 hK hP (by decide)) rfl hl.1 rfl (Nat.le_of_ble_eq_true rfl) dX7_of_2 ⟨Nat.le_of_ble_eq_true rfl, Nat.le_of_ble_eq_true rfl⟩ (fun H locs hP hS => ?_)
  refine lv_if_ne (tgt := 14) hx hb dX7_of_5 (by decide) (fun cz3 => ?_) (fun cz3 => ?_)
  · have hk := it_f cz3 hk
    refine lv_iload_n hx hb dX7_of_14 rfl (lv_at hl 2 rfl) ?_
    by_cases cz5 : p1 = (107 : Int32)
    · have hk := it_t cz5 hk
      refine lv_tableIn (off := 76) (tgt := 91) hx hb dX7_of_15 (by rw [cz5]; decide) (by rw [cz5]; decide) (by rw [cz5]; rfl) (by decide) ?_
      refine lv_aload_n hx hb dX7_of_91 rfl (lv_at hl 0 rfl) ?_
      refine lv_aload_n hx hb dX7_of_92 rfl (lv_at hl 0 rfl) ?_
      refine gf_RX7_81 hx hb hts hown hK hP (by decide) dX7_of_93 ?_
      refine lv_iload_n hx hb dX7_of_96 rfl (lv_at hl 1 rfl) ?_
      obtain ⟨hg6, hk⟩ := gd_s hk
      refine wa_iaload_40 hx hb hK hP (by decide) hg6 dX7_of_97 ?_
      obtain ⟨M8, v7, hf9, hk⟩ := b1_s hk
      refine wc_iV0 (rest := []) (As := [.int (M.1 40 0 (p0).toNatClampNeg)]) ⟨hx, hb, hml, hown, hts⟩ (fun sz => k_X7_tells l hfl Z hZ X M O (M.1 40 0 (p0).toNatClampNeg) M8 v7 hf9 sz) (cw_RX7_169 (args := args) (s := s) hts (Nat.le_of_ble_eq_true rfl) (Nat.le_of_ble_eq_true rfl)) hE hP hK hS (rv_26 hK hP (by decide)) rfl hl.1 rfl (Nat.le_of_ble_eq_true rfl) dX7_of_98 ⟨Nat.le_of_ble_eq_true rfl, Nat.le_of_ble_eq_true rfl⟩ (fun H locs hP hS => ?_)
      cases (show some _ = some _ from hk)
      exact we_i hx hb hr hlocks hP rfl hS dX7_of_101 (by decide) (by decide)
    have hk := it_f cz5 hk
    by_cases cz10 : p1 = (109 : Int32)
    · have hk := it_t cz10 hk
      refine lv_tableIn (off := 65) (tgt := 80) hx hb dX7_of_15 (by rw [cz10]; decide) (by rw [cz10]; decide) (by rw [cz10]; rfl) (by decide) ?_
      refine lv_aload_n hx hb dX7_of_80 rfl (lv_at hl 0 rfl) ?_
      refine lv_aload_n hx hb dX7_of_81 rfl (lv_at hl 0 rfl) ?_
      refine gf_RX7_78 hx hb hts hown hK hP (by decide) dX7_of_82 ?_
      refine lv_iload_n hx hb dX7_of_85 rfl (lv_at hl 1 rfl) ?_
      obtain ⟨hg11, hk⟩ := gd_s hk
      refine wa_iaload_39 hx hb hK hP (by decide) hg11 dX7_of_86 ?_
      obtain ⟨M13, v12, hf14, hk⟩ := b1_s hk
      refine wc_iV0 (rest := []) (As := [.int (M.1 39 0 (p0).toNatClampNeg)]) ⟨hx, hb, hml, hown, hts⟩ (fun sz => k_X7_tells l hfl Z hZ X M O (M.1 39 0 (p0).toNatClampNeg) M13 v12 hf14 sz) (cw_RX7_169 (args := args) (s := s) hts (Nat.le_of_ble_eq_true rfl) (Nat.le_of_ble_eq_true rfl)) hE hP hK hS (rv_26 hK hP (by decide)) rfl hl.1 rfl (Nat.le_of_ble_eq_true rfl) dX7_of_87 ⟨Nat.le_of_ble_eq_true rfl, Nat.le_of_ble_eq_true rfl⟩ (fun H locs hP hS => ?_)
      cases (show some _ = some _ from hk)
      exact we_i hx hb hr hlocks hP rfl hS dX7_of_90 (by decide) (by decide)
    have hk := it_f cz10 hk
    by_cases cz15 : p1 = (110 : Int32)
    · have hk := it_t cz15 hk
      refine lv_tableIn (off := 87) (tgt := 102) hx hb dX7_of_15 (by rw [cz15]; decide) (by rw [cz15]; decide) (by rw [cz15]; rfl) (by decide) ?_
      refine lv_aload_n hx hb dX7_of_102 rfl (lv_at hl 0 rfl) ?_
      refine lv_aload_n hx hb dX7_of_103 rfl (lv_at hl 0 rfl) ?_
      refine gf_RX7_48 hx hb hts hown hK hP (by decide) dX7_of_104 ?_
      refine lv_iload_n hx hb dX7_of_107 rfl (lv_at hl 1 rfl) ?_
      obtain ⟨hg16, hk⟩ := gd_s hk
      refine wa_iaload_29 hx hb hK hP (by decide) hg16 dX7_of_108 ?_
      obtain ⟨M18, v17, hf19, hk⟩ := b1_s hk
      refine wc_iV0 (rest := []) (As := [.int (M.1 29 0 (p0).toNatClampNeg)]) ⟨hx, hb, hml, hown, hts⟩ (fun sz => k_X7_tells l hfl Z hZ X M O (M.1 29 0 (p0).toNatClampNeg) M18 v17 hf19 sz) (cw_RX7_169 (args := args) (s := s) hts (Nat.le_of_ble_eq_true rfl) (Nat.le_of_ble_eq_true rfl)) hE hP hK hS (rv_26 hK hP (by decide)) rfl hl.1 rfl (Nat.le_of_ble_eq_true rfl) dX7_of_109 ⟨Nat.le_of_ble_eq_true rfl, Nat.le_of_ble_eq_true rfl⟩ (fun H locs hP hS => ?_)
      cases (show some _ = some _ from hk)
      exact we_i hx hb hr hlocks hP rfl hS dX7_of_112 (by decide) (by decide)
    have hk := it_f cz15 hk
    by_cases cz20 : p1 = (118 : Int32)
    · have hk := it_t cz20 hk
      refine lv_tableIn (off := 98) (tgt := 113) hx hb dX7_of_15 (by rw [cz20]; decide) (by rw [cz20]; decide) (by rw [cz20]; rfl) (by decide) ?_
      refine lv_aload_n hx hb dX7_of_113 rfl (lv_at hl 0 rfl) ?_
      refine lv_aload_n hx hb dX7_of_114 rfl (lv_at hl 0 rfl) ?_
      refine lv_iload_n hx hb dX7_of_115 rfl (lv_at hl 1 rfl) ?_
      obtain ⟨v21, hf22, hk⟩ := b0_s hk
      refine wc_iV0 (rest := [.ref (Z.2.2 26 0)]) (As := [.int p0]) ⟨hx, hb, hml, hown, hts⟩ (fun sz => k_X7_votesOf l hfl Z hZ X M O p0 v21 hf22 sz) (cw_RX7_230 (args := args) (s := s) hts (Nat.le_of_ble_eq_true rfl) (Nat.le_of_ble_eq_true rfl)) hE hP hK hS (rv_26 hK hP (by decide)) rfl hl.1 rfl (Nat.le_of_ble_eq_true rfl) dX7_of_116 ⟨Nat.le_of_ble_eq_true rfl, Nat.le_of_ble_eq_true rfl⟩ (fun H locs hP hS => ?_)
      obtain ⟨M24, v23, hf25, hk⟩ := b1_s hk
      refine wc_iV0 (rest := []) (As := [.int v21]) ⟨hx, hb, hml, hown, hts⟩ (fun sz => k_X7_tells l hfl Z hZ X M O v21 M24 v23 hf25 sz) (cw_RX7_169 (args := args) (s := s) hts (Nat.le_of_ble_eq_true rfl) (Nat.le_of_ble_eq_true rfl)) hE hP hK hS (rv_26 hK hP (by decide)) rfl hl.1 rfl (Nat.le_of_ble_eq_true rfl) dX7_of_119 ⟨Nat.le_of_ble_eq_true rfl, Nat.le_of_ble_eq_true rfl⟩ (fun H locs hP hS => ?_)
      cases (show some _ = some _ from hk)
      exact we_i hx hb hr hlocks hP rfl hS dX7_of_122 (by decide) (by decide)
    have hk := it_f cz20 hk
    by_cases cz26 : p1 = (119 : Int32)
    · have hk := it_t cz26 hk
      refine lv_tableIn (off := 108) (tgt := 123) hx hb dX7_of_15 (by rw [cz26]; decide) (by rw [cz26]; decide) (by rw [cz26]; rfl) (by decide) ?_
      refine lv_aload_n hx hb dX7_of_123 rfl (lv_at hl 0 rfl) ?_
      refine lv_aload_n hx hb dX7_of_124 rfl (lv_at hl 0 rfl) ?_
      refine lv_iload_n hx hb dX7_of_125 rfl (lv_at hl 1 rfl) ?_
      obtain ⟨v27, hf28, hk⟩ := b0_s hk
      refine wc_iV0 (rest := [.ref (Z.2.2 26 0)]) (As := [.int p0]) ⟨hx, hb, hml, hown, hts⟩ (fun sz => k_X7_weightOf l hfl Z hZ X M O p0 v27 hf28 sz) (cw_RX7_233 (args := args) (s := s) hts (Nat.le_of_ble_eq_true rfl) (Nat.le_of_ble_eq_true rfl)) hE hP hK hS (rv_26 hK hP (by decide)) rfl hl.1 rfl (Nat.le_of_ble_eq_true rfl) dX7_of_126 ⟨Nat.le_of_ble_eq_true rfl, Nat.le_of_ble_eq_true rfl⟩ (fun H locs hP hS => ?_)
      obtain ⟨M30, v29, hf31, hk⟩ := b1_s hk
      refine wc_iV0 (rest := []) (As := [.int v27]) ⟨hx, hb, hml, hown, hts⟩ (fun sz => k_X7_tells l hfl Z hZ X M O v27 M30 v29 hf31 sz) (cw_RX7_169 (args := args) (s := s) hts (Nat.le_of_ble_eq_true rfl) (Nat.le_of_ble_eq_true rfl)) hE hP hK hS (rv_26 hK hP (by decide)) rfl hl.1 rfl (Nat.le_of_ble_eq_true rfl) dX7_of_129 ⟨Nat.le_of_ble_eq_true rfl, Nat.le_of_ble_eq_true rfl⟩ (fun H locs hP hS => ?_)
      cases (show some _ = some _ from hk)
      exact we_i hx hb hr hlocks hP rfl hS dX7_of_132 (by decide) (by decide)
    have hk := it_f cz26 hk
    refine sw_out (lo := 107) (hi := 119) (d := 118) (tgt := 133) (x := p1) hx hb dX7_of_15 (by decide) (fun j h1 h2 h3 => ?_) ?_
    · rcases (show j = 107 ∨ j = 108 ∨ j = 109 ∨ j = 110 ∨ j = 111 ∨ j = 112 ∨ j = 113 ∨ j = 114 ∨ j = 115 ∨ j = 116 ∨ j = 117 ∨ j = 118 ∨ j = 119 by omega) with rfl | rfl | rfl | rfl | rfl | rfl | rfl | rfl | rfl | rfl | rfl | rfl | rfl
      · exact absurd h3 cz5
      · rfl
      · exact absurd h3 cz10
      · exact absurd h3 cz15
      · rfl
      · rfl
      · rfl
      · rfl
      · rfl
      · rfl
      · rfl
      · exact absurd h3 cz20
      · exact absurd h3 cz26
    refine lv_aload_n hx hb dX7_of_133 rfl (lv_at hl 0 rfl) ?_
    refine lv_iconst (v := (2 : Int32)) hx hb dX7_of_134 (by decide) ?_
    obtain ⟨M33, v32, hf34, hk⟩ := b1_s hk
    refine wc_iV0 (rest := []) (As := [.int (2 : Int32)]) ⟨hx, hb, hml, hown, hts⟩ (fun sz => k_X7_fails l hfl Z hZ X M O (2 : Int32) M33 v32 hf34 sz) (cw_RX7_165 (args := args) (s := s) hts (Nat.le_of_ble_eq_true rfl) (Nat.le_of_ble_eq_true rfl)) hE hP hK hS (rv_26 hK hP (by decide)) rfl hl.1 rfl (Nat.le_of_ble_eq_true rfl) dX7_of_135 ⟨Nat.le_of_ble_eq_true rfl, Nat.le_of_ble_eq_true rfl⟩ (fun H locs hP hS => ?_)
    cases (show some _ = some _ from hk)
    exact we_i hx hb hr hlocks hP rfl hS dX7_of_138 (by decide) (by decide)
  · have hk := it_t cz3 hk
    refine lv_aload_n hx hb dX7_of_8 rfl (lv_at hl 0 rfl) ?_
    refine lv_iconst (v := (1 : Int32)) hx hb dX7_of_9 (by decide) ?_
    obtain ⟨M36, v35, hf37, hk⟩ := b1_s hk
    refine wc_iV0 (rest := []) (As := [.int (1 : Int32)]) ⟨hx, hb, hml, hown, hts⟩ (fun sz => k_X7_fails l hfl Z hZ X M O (1 : Int32) M36 v35 hf37 sz) (cw_RX7_165 (args := args) (s := s) hts (Nat.le_of_ble_eq_true rfl) (Nat.le_of_ble_eq_true rfl)) hE hP hK hS (rv_26 hK hP (by decide)) rfl hl.1 rfl (Nat.le_of_ble_eq_true rfl) dX7_of_10 ⟨Nat.le_of_ble_eq_true rfl, Nat.le_of_ble_eq_true rfl⟩ (fun H locs hP hS => ?_)
    cases (show some _ = some _ from hk)
    exact we_i hx hb hr hlocks hP rfl hS dX7_of_13 (by decide) (by decide)
set_option maxHeartbeats 4000000 in
set_option maxRecDepth 100000 in
theorem k_X7_state (l : Launch) (hfl : l.stackTraces = false) (Z : ZT) (hZ : wD Z) (X M O : SS) (p0 : Int32) (Mz : SS) (r : Int32) (hf : f_X7_state M p0 = some (Mz, r)) (sz : Nat) : vx_Met l yX7_state ws_X7_state rm_X7_state (va_Pc [.ref (Z.2.2 26 0), .int p0] (cP Z (X, M, O) sz)) (cQi Z (X, Mz, O) (.inl r) sz) (cX Z (X, Mz, O) (.inl r : Int32 ⊕ String) sz) 0 0 (wA Z sz) := by
  refine vx_ofW (cc := cX7_state) (maxL := 2) (ret := (some .char)) (by decide) rfl ?_
  intro p e s m args below meth c s₁ B hml htab hv
  obtain ⟨hargs, hsz, hE, hP, hK⟩ := hv
  have hx := B.exec
  have hb := B.bytes
  have hr := B.returns
  have hts0 := atoms_spec (ws := ws_X7_state) B.pre
  have hts : ∀ w ∈ lw_all, w.before args s = true := fun w h => hts0 w (List.mem_cons_of_mem _ h)
  have hown : s.vm.findClass RX7 = some m.cls := findClass_of_methodNamed B.named
  have hlocks := B.notSynchronized
  have hout9 : ∀ (pc9 : Nat), ∀ x ∈ c.exceptionTable.toList, covers x pc9 = false := fun _ x hx9 => (htab x hx9).elim
  subst hsz
  have hS : va_S (wA Z s.heap.size) s.heap s.heap [] := va_S.rf
  have hl := lv_entry ([.ref (Z.2.2 26 0), .int p0]) (n := 2) (Nat.le_of_ble_eq_true rfl)
  have hen : entryFrame m args 2 = entryFrame m ([.ref (Z.2.2 26 0), .int p0] : List Value).toArray 2 := by rw [hargs]
  rw [hen, lg_entry_eq]
  generalize (lg_sl ([.ref (Z.2.2 26 0), .int p0]) ++ List.replicate (2 - (lg_sl ([.ref (Z.2.2 26 0), .int p0])).length) Slot.unset).toArray = ls at hl ⊢
  have hl : lv_has ls 2 [(0, .ref (Z.2.2 26 0)), (1, .int p0)] := hl
  have hk := hf
  unfold f_X7_state at hk
  refine lv_aload_n hx hb dX7_state_0 rfl (lv_at hl 0 rfl) ?_
  refine lv_aload_n hx hb dX7_state_1 rfl (lv_at hl 0 rfl) ?_
  refine lv_iload_n hx hb dX7_state_2 rfl (lv_at hl 1 rfl) ?_
  obtain ⟨v1, hf2, hk⟩ := b0_s hk
  refine wc_iV0 (rest := [.ref (Z.2.2 26 0)]) (As := [.int p0]) ⟨hx, hb, hml, hown, hts⟩ (fun sz => k_X7_isWork l hfl Z hZ X M O p0 v1 hf2 sz) (cw_RX7_227 (args := args) (s := s) hts (Nat.le_of_ble_eq_true rfl) (Nat.le_of_ble_eq_true rfl)) hE hP hK hS (rv_26 hK hP (by decide)) rfl hl.1 rfl (Nat.le_of_ble_eq_true rfl) dX7_state_3 ⟨Nat.le_of_ble_eq_true rfl, Nat.le_of_ble_eq_true rfl⟩ (fun H locs hP hS => ?_)
  have jn4 : ∀ (v3 : Int32) (H : Heap) (locs : List Loc) (ls : Array Slot), f_X7_state_J14 M p0 v3 = some (Mz, r) → wP Z (X, M, O) H → va_S (wA Z s.heap.size) s.heap H locs → lv_has ls 2 [(0, .ref (Z.2.2 26 0)), (1, .int p0)] → W p l e (headSpec ws_X7_state rm_X7_state).room s m args below meth c H locs 0 0 (vx_MQ below (cQi Z (X, Mz, O) (.inl r) s.heap.size) (cX Z (X, Mz, O) (.inl r : Int32 ⊕ String) s.heap.size) args s 0 0 (wA Z s.heap.size)) (F0 m 14 ls [.int v3, .ref (Z.2.2 26 0)]) := by
    intro v3 H locs ls hk hP hS hl
    unfold f_X7_state_J14 at hk
    obtain ⟨M5, eM5, hk⟩ := lq_s hk
    refine pf_RX7_37 hx hb hts hown hZ hK hP hS (by decide) dX7_state_14 (fun H locs hP hS => ?_)
    rw [← eM5] at hP
    refine lv_aload_n hx hb dX7_state_17 rfl (lv_at hl 0 rfl) ?_
    refine gf_RX7_37 hx hb hts hown hK hP (by decide) dX7_state_18 ?_
    refine lv_if_le (tgt := 28) hx hb dX7_state_21 (by decide) (fun cz6 => ?_) (fun cz6 => ?_)
    · have hk := it_t cz6 hk
      refine lv_aload_n hx hb dX7_state_28 rfl (lv_at hl 0 rfl) ?_
      refine gf_RX7_88 hx hb hts hown hK hP (by decide) dX7_state_29 ?_
      refine lv_iload_n hx hb dX7_state_32 rfl (lv_at hl 1 rfl) ?_
      obtain ⟨hg7, hk⟩ := gd_s hk
      refine wa_caload_42 hx hb hK hP (by decide) hg7 dX7_state_33 ?_
      obtain ⟨hg8, hk⟩ := gd_s hk
      cases (show some _ = some _ from hk)
      exact we_z hx hb hr hlocks hg8.1 hP rfl hS dX7_state_34 (by decide) (by decide)
    · have hk := it_f cz6 hk
      refine lv_iconst (v := (0 : Int32)) hx hb dX7_state_24 (by decide) ?_
      refine lv_goto (tgt := 34) hx hb dX7_state_25 (by decide) ?_
      cases (show some _ = some _ from hk)
      exact we_z hx hb hr hlocks (show okc (0 : Int32) by unfold okc; decide).1 hP rfl hS dX7_state_34 (by decide) (by decide)
  refine lv_if_eq (tgt := 13) hx hb dX7_state_6 (by decide) (fun cz9 => ?_) (fun cz9 => ?_)
  · have hk := it_t cz9 hk
    refine lv_iconst (v := (1 : Int32)) hx hb dX7_state_13 (by decide) ?_
    exact jn4 (1 : Int32) _ _ _ hk hP hS (lv_sub hl [0, 1] rfl)
  · have hk := it_f cz9 hk
    refine lv_iconst (v := (0 : Int32)) hx hb dX7_state_9 (by decide) ?_
    refine lv_goto (tgt := 14) hx hb dX7_state_10 (by decide) ?_
    exact jn4 (0 : Int32) _ _ _ hk hP hS (lv_sub hl [0, 1] rfl)
set_option maxHeartbeats 4000000 in
set_option maxRecDepth 100000 in
theorem k_X7_sum (l : Launch) (hfl : l.stackTraces = false) (Z : ZT) (hZ : wD Z) (X M O : SS) (p0 : Int32) (Mz : SS) (r : Int64) (hf : f_X7_sum M p0 = some (Mz, r)) (sz : Nat) : vx_Met l yX7_sum ws_X7_sum rm_X7_sum (va_Pc [.ref (Z.2.2 26 0), .int p0] (cP Z (X, M, O) sz)) (cQl Z (X, Mz, O) (.inl r) sz) (cX Z (X, Mz, O) (.inl r : Int64 ⊕ String) sz) 0 0 (wA Z sz) := by
  refine vx_ofW (cc := cX7_sum) (maxL := 2) (ret := (some .long)) (by decide) rfl ?_
  intro p e s m args below meth c s₁ B hml htab hv
  obtain ⟨hargs, hsz, hE, hP, hK⟩ := hv
  have hx := B.exec
  have hb := B.bytes
  have hr := B.returns
  have hts0 := atoms_spec (ws := ws_X7_sum) B.pre
  have hts : ∀ w ∈ lw_all, w.before args s = true := fun w h => hts0 w (List.mem_cons_of_mem _ h)
  have hown : s.vm.findClass RX7 = some m.cls := findClass_of_methodNamed B.named
  have hlocks := B.notSynchronized
  have hout9 : ∀ (pc9 : Nat), ∀ x ∈ c.exceptionTable.toList, covers x pc9 = false := fun _ x hx9 => (htab x hx9).elim
  subst hsz
  have hS : va_S (wA Z s.heap.size) s.heap s.heap [] := va_S.rf
  have hl := lv_entry ([.ref (Z.2.2 26 0), .int p0]) (n := 2) (Nat.le_of_ble_eq_true rfl)
  have hen : entryFrame m args 2 = entryFrame m ([.ref (Z.2.2 26 0), .int p0] : List Value).toArray 2 := by rw [hargs]
  rw [hen, lg_entry_eq]
  generalize (lg_sl ([.ref (Z.2.2 26 0), .int p0]) ++ List.replicate (2 - (lg_sl ([.ref (Z.2.2 26 0), .int p0])).length) Slot.unset).toArray = ls at hl ⊢
  have hl : lv_has ls 2 [(0, .ref (Z.2.2 26 0)), (1, .int p0)] := hl
  have hk := hf
  unfold f_X7_sum at hk
  refine lv_aload_n hx hb dX7_sum_0 rfl (lv_at hl 0 rfl) ?_
  refine lv_aload_n hx hb dX7_sum_1 rfl (lv_at hl 0 rfl) ?_
  refine lv_iload_n hx hb dX7_sum_2 rfl (lv_at hl 1 rfl) ?_
  obtain ⟨v1, hf2, hk⟩ := b0_s hk
  refine wc_iV0 (rest := [.ref (Z.2.2 26 0)]) (As := [.int p0]) ⟨hx, hb, hml, hown, hts⟩ (fun sz => k_X7_isWork l hfl Z hZ X M O p0 v1 hf2 sz) (cw_RX7_227 (args := args) (s := s) hts (Nat.le_of_ble_eq_true rfl) (Nat.le_of_ble_eq_true rfl)) hE hP hK hS (rv_26 hK hP (by decide)) rfl hl.1 rfl (Nat.le_of_ble_eq_true rfl) dX7_sum_3 ⟨Nat.le_of_ble_eq_true rfl, Nat.le_of_ble_eq_true rfl⟩ (fun H locs hP hS => ?_)
  have jn4 : ∀ (v3 : Int32) (H : Heap) (locs : List Loc) (ls : Array Slot), f_X7_sum_J14 M p0 v3 = some (Mz, r) → wP Z (X, M, O) H → va_S (wA Z s.heap.size) s.heap H locs → lv_has ls 2 [(0, .ref (Z.2.2 26 0)), (1, .int p0)] → W p l e (headSpec ws_X7_sum rm_X7_sum).room s m args below meth c H locs 0 0 (vx_MQ below (cQl Z (X, Mz, O) (.inl r) s.heap.size) (cX Z (X, Mz, O) (.inl r : Int64 ⊕ String) s.heap.size) args s 0 0 (wA Z s.heap.size)) (F0 m 14 ls [.int v3, .ref (Z.2.2 26 0)]) := by
    intro v3 H locs ls hk hP hS hl
    unfold f_X7_sum_J14 at hk
    obtain ⟨M5, eM5, hk⟩ := lq_s hk
    refine pf_RX7_37 hx hb hts hown hZ hK hP hS (by decide) dX7_sum_14 (fun H locs hP hS => ?_)
    rw [← eM5] at hP
    refine lv_aload_n hx hb dX7_sum_17 rfl (lv_at hl 0 rfl) ?_
    refine gf_RX7_37 hx hb hts hown hK hP (by decide) dX7_sum_18 ?_
    refine lv_if_le (tgt := 28) hx hb dX7_sum_21 (by decide) (fun cz6 => ?_) (fun cz6 => ?_)
    · have hk := it_t cz6 hk
      refine lv_aload_n hx hb dX7_sum_28 rfl (lv_at hl 0 rfl) ?_
      refine gf_RX7_84 hx hb hts hown hK hP (by decide) dX7_sum_29 ?_
      refine lv_iload_n hx hb dX7_sum_32 rfl (lv_at hl 1 rfl) ?_
      obtain ⟨hg7, hk⟩ := gd_s hk
      refine wa_laload_41 hx hb hK hP (by decide) hg7 dX7_sum_33 ?_
      cases (show some _ = some _ from hk)
      exact we_l hx hb hr hlocks hP rfl hS dX7_sum_34 (by decide) (by decide)
    · have hk := it_f cz6 hk
      refine lv_lconst (v := (0 : Int64)) hx hb dX7_sum_24 (by decide) ?_
      refine lv_goto (tgt := 34) hx hb dX7_sum_25 (by decide) ?_
      cases (show some _ = some _ from hk)
      exact we_l hx hb hr hlocks hP rfl hS dX7_sum_34 (by decide) (by decide)
  refine lv_if_eq (tgt := 13) hx hb dX7_sum_6 (by decide) (fun cz8 => ?_) (fun cz8 => ?_)
  · have hk := it_t cz8 hk
    refine lv_iconst (v := (1 : Int32)) hx hb dX7_sum_13 (by decide) ?_
    exact jn4 (1 : Int32) _ _ _ hk hP hS (lv_sub hl [0, 1] rfl)
  · have hk := it_f cz8 hk
    refine lv_iconst (v := (0 : Int32)) hx hb dX7_sum_9 (by decide) ?_
    refine lv_goto (tgt := 14) hx hb dX7_sum_10 (by decide) ?_
    exact jn4 (0 : Int32) _ _ _ hk hP hS (lv_sub hl [0, 1] rfl)