set_option maxHeartbeats 4000000 in
set_option maxRecDepth 100000 in
theorem k_X7_beltOf (l : Launch) (hfl : l.stackTraces = false) (Z : ZT) (hZ : wD Z) (X M O : SS) (p0 : Int32) (r : Int32) (hf : f_X7_beltOf M p0 = some (r)) (sz : Nat) : vx_Met l yX7_beltOf ws_X7_beltOf rm_X7_beltOf (va_Pc [.ref (Z.2.2 26 0), .int p0] (cP Z (X, M, O) sz)) (cQi Z (X, M, O) (.inl r) sz) (cX Z (X, M, O) (.inl r : Int32 ⊕ String) sz) 0 0 (wA Z sz) := by
  refine vx_ofW (cc := cX7_beltOf) (maxL := 6) (ret := (some .int)) (by decide) rfl ?_
  intro p e s m args below meth c s₁ B hml htab hv
  obtain ⟨hargs, hsz, hE, hP, hK⟩ := hv
  have hx := B.exec
  have hb := B.bytes
  have hr := B.returns
  have hts0 := atoms_spec (ws := ws_X7_beltOf) B.pre
  have hts : ∀ w ∈ lw_all, w.before args s = true := fun w h => hts0 w (List.mem_cons_of_mem _ h)
  have hown : s.vm.findClass RX7 = some m.cls := findClass_of_methodNamed B.named
  have hlocks := B.notSynchronized
  have hout9 : ∀ (pc9 : Nat), ∀ x ∈ c.exceptionTable.toList, covers x pc9 = false := fun _ x hx9 => (htab x hx9).elim
  subst hsz
  have hS : va_S (wA Z s.heap.size) s.heap s.heap [] := va_S.rf
  have hl := lv_entry ([.ref (Z.2.2 26 0), .int p0]) (n := 6) (Nat.le_of_ble_eq_true rfl)
  have hen : entryFrame m args 6 = entryFrame m ([.ref (Z.2.2 26 0), .int p0] : List Value).toArray 6 := by rw [hargs]
  rw [hen, lg_entry_eq]
  generalize (lg_sl ([.ref (Z.2.2 26 0), .int p0]) ++ List.replicate (6 - (lg_sl ([.ref (Z.2.2 26 0), .int p0])).length) Slot.unset).toArray = ls at hl ⊢
  have hl : lv_has ls 6 [(0, .ref (Z.2.2 26 0)), (1, .int p0)] := hl
  have hk := hf
  unfold f_X7_beltOf at hk
  refine lv_iconst (v := (0 : Int32)) hx hb dX7_beltOf_0 (by decide) ?_
  refine lv_istore_n (lv' := [(2, .int (0 : Int32)), (0, .ref (Z.2.2 26 0)), (1, .int p0)]) hx hb dX7_beltOf_1 rfl hl (by decide) rfl (fun ls hl => ?_)
  refine lv_iconst (v := (0 : Int32)) hx hb dX7_beltOf_2 (by decide) ?_
  refine lv_istore_n (lv' := [(3, .int (0 : Int32)), (2, .int (0 : Int32)), (0, .ref (Z.2.2 26 0)), (1, .int p0)]) hx hb dX7_beltOf_3 rfl hl (by decide) rfl (fun ls hl => ?_)
  obtain ⟨k1, hk1, hk⟩ := gn hk
  have ex1 : ∀ (v2 : Int32) (H : Heap) (locs : List Loc) (ls : Array Slot), k1 v2 = some (r) → wP Z (X, M, O) H → va_S (wA Z s.heap.size) s.heap H locs → lv_has ls 6 [(2, .int v2), (0, .ref (Z.2.2 26 0)), (1, .int p0)] → W p l e (headSpec ws_X7_beltOf rm_X7_beltOf).room s m args below meth c H locs 0 0 (vx_MQ below (cQi Z (X, M, O) (.inl r) s.heap.size) (cX Z (X, M, O) (.inl r : Int32 ⊕ String) s.heap.size) args s 0 0 (wA Z s.heap.size)) (F0 m 36 ls []) := by
    intro v2 H locs ls hk hP hS hl
    subst hk1
    refine lv_aload_n hx hb dX7_beltOf_36 rfl (lv_at hl 1 rfl) ?_
    refine lv_iload_n hx hb dX7_beltOf_37 rfl (lv_at hl 2 rfl) ?_
    obtain ⟨v5, hf6, hk⟩ := b0_s hk
    refine wc_fV0 (rest := []) (As := [.int p0]) ⟨hx, hb, hml, hown, hts⟩ (fun sz => k_X7_pointsOf l hfl Z hZ X M O p0 v5 hf6 sz) (cw_RX7_274 (args := args) (s := s) hts (Nat.le_of_ble_eq_true rfl) (Nat.le_of_ble_eq_true rfl)) hE hP hK hS (rv_26 hK hP (by decide)) rfl hl.1 rfl (Nat.le_of_ble_eq_true rfl) dX7_beltOf_38 ⟨Nat.le_of_ble_eq_true rfl, Nat.le_of_ble_eq_true rfl⟩ (fun H locs hP hS => ?_)
    refine lv_fstore_n (lv' := [(3, .float v5), (2, .int v2), (0, .ref (Z.2.2 26 0)), (1, .int p0)]) hx hb dX7_beltOf_41 rfl hl (by decide) rfl (fun ls hl => ?_)
    refine lv_iconst (v := (0 : Int32)) hx hb dX7_beltOf_42 (by decide) ?_
    refine lv_istore (lv' := [(4, .int (0 : Int32)), (3, .float v5), (2, .int v2), (0, .ref (Z.2.2 26 0)), (1, .int p0)]) hx hb dX7_beltOf_43 hl (by decide) rfl (fun ls hl => ?_)
    refine lv_iconst (v := (1 : Int32)) hx hb dX7_beltOf_45 (by decide) ?_
    refine lv_istore (lv' := [(5, .int (1 : Int32)), (4, .int (0 : Int32)), (3, .float v5), (2, .int v2), (0, .ref (Z.2.2 26 0)), (1, .int p0)]) hx hb dX7_beltOf_46 hl (by decide) rfl (fun ls hl => ?_)
    obtain ⟨k7, hk7, hk⟩ := gn hk
    have ex7 : ∀ (v8 : Int32) (H : Heap) (locs : List Loc) (ls : Array Slot), k7 v8 = some (r) → wP Z (X, M, O) H → va_S (wA Z s.heap.size) s.heap H locs → lv_has ls 6 [(4, .int v8)] → W p l e (headSpec ws_X7_beltOf rm_X7_beltOf).room s m args below meth c H locs 0 0 (vx_MQ below (cQi Z (X, M, O) (.inl r) s.heap.size) (cX Z (X, M, O) (.inl r : Int32 ⊕ String) s.heap.size) args s 0 0 (wA Z s.heap.size)) (F0 m 91 ls []) := by
      intro v8 H locs ls hk hP hS hl
      subst hk7
      refine lv_iload hx hb dX7_beltOf_91 (lv_at hl 0 rfl) ?_
      cases (show some _ = some _ from hk)
      exact we_i hx hb hr hlocks hP rfl hS dX7_beltOf_93 (by decide) (by decide)
    have lp7 : ∀ (n : Nat) (v9 : Int32) (v10 : Int32) (H : Heap) (locs : List Loc) (ls : Array Slot), f_X7_beltOf_L48 v2 v5 n v9 v10 k7 = some (r) → wP Z (X, M, O) H → va_S (wA Z s.heap.size) s.heap H locs → lv_has ls 6 [(5, .int v9), (4, .int v10), (3, .float v5), (2, .int v2)] → W p l e (headSpec ws_X7_beltOf rm_X7_beltOf).room s m args below meth c H locs 0 0 (vx_MQ below (cQi Z (X, M, O) (.inl r) s.heap.size) (cX Z (X, M, O) (.inl r : Int32 ⊕ String) s.heap.size) args s 0 0 (wA Z s.heap.size)) (F0 m 48 ls []) := by
      intro n
      induction n with
      | zero =>
        intro v9 v10 H locs ls hk
        rw [f_X7_beltOf_L48] at hk
        exact nomatch (show none = some _ from hk)
      | succ n ih =>
        intro v9 v10 H locs ls hk hP hS hl
        rw [f_X7_beltOf_L48] at hk
        refine lv_iload hx hb dX7_beltOf_48 (lv_at hl 0 rfl) ?_
        refine lv_bipush (v := (6 : Int32)) hx hb dX7_beltOf_50 (by decide) ?_
        refine lv_icmp_ge (tgt := 91) hx hb dX7_beltOf_52 (by decide) (fun cz11 => ?_) (fun cz11 => ?_)
        · have hk := it_t cz11 hk
          exact ex7 v10 _ _ _ hk hP hS (lv_sub hl [1] rfl)
        · have hk := it_f cz11 hk
          refine lv_iload_n hx hb dX7_beltOf_55 rfl (lv_at hl 3 rfl) ?_
          refine lv_iload hx hb dX7_beltOf_56 (lv_at hl 0 rfl) ?_
          refine lv_icmp_lt (tgt := 81) hx hb dX7_beltOf_58 (by decide) (fun cz12 => ?_) (fun cz12 => ?_)
          · have hk := it_t cz12 hk
            refine lv_iload hx hb dX7_beltOf_81 (lv_at hl 1 rfl) ?_
            refine lv_istore (lv' := [(4, .int v10), (5, .int v9), (3, .float v5), (2, .int v2)]) hx hb dX7_beltOf_83 hl (by decide) rfl (fun ls hl => ?_)
            refine lv_iinc (v := (v9 + (1 : Int32))) (lv' := [(5, .int (v9 + (1 : Int32))), (4, .int v10), (3, .float v5), (2, .int v2)]) hx hb dX7_beltOf_85 hl (k := 1) rfl rfl (by decide) rfl (fun ls hl => ?_)
            refine lv_goto (tgt := 48) hx hb dX7_beltOf_88 (by decide) ?_
            exact ih (v9 + (1 : Int32)) v10 _ _ _ hk hP hS (lv_sub hl [0, 1, 2, 3] rfl)
          · have hk := it_f cz12 hk
            refine lv_fload_n hx hb dX7_beltOf_61 rfl (lv_at hl 2 rfl) ?_
            refine lv_iconst (v := (2 : Int32)) hx hb dX7_beltOf_62 (by decide) ?_
            refine lv_iload hx hb dX7_beltOf_63 (lv_at hl 0 rfl) ?_
            refine lv_imul hx hb dX7_beltOf_65 ?_
            refine lv_iload hx hb dX7_beltOf_66 (lv_at hl 0 rfl) ?_
            refine lv_iconst (v := (1 : Int32)) hx hb dX7_beltOf_68 (by decide) ?_
            refine lv_iadd hx hb dX7_beltOf_69 ?_
            refine lv_imul hx hb dX7_beltOf_70 ?_
            refine lv_i2f hx hb dX7_beltOf_71 ?_
            refine lv_fcmp hx hb dX7_beltOf_72 ?_
            refine lv_if_lt (tgt := 81) hx hb dX7_beltOf_73 (by decide) (fun cz13 => ?_) (fun cz13 => ?_)
            · have hk := it_t cz13 hk
              refine lv_iload hx hb dX7_beltOf_81 (lv_at hl 1 rfl) ?_
              refine lv_istore (lv' := [(4, .int v10), (5, .int v9), (3, .float v5), (2, .int v2)]) hx hb dX7_beltOf_83 hl (by decide) rfl (fun ls hl => ?_)
              refine lv_iinc (v := (v9 + (1 : Int32))) (lv' := [(5, .int (v9 + (1 : Int32))), (4, .int v10), (3, .float v5), (2, .int v2)]) hx hb dX7_beltOf_85 hl (k := 1) rfl rfl (by decide) rfl (fun ls hl => ?_)
              refine lv_goto (tgt := 48) hx hb dX7_beltOf_88 (by decide) ?_
              exact ih (v9 + (1 : Int32)) v10 _ _ _ hk hP hS (lv_sub hl [0, 1, 2, 3] rfl)
            · have hk := it_f cz13 hk
              refine lv_iload hx hb dX7_beltOf_76 (lv_at hl 0 rfl) ?_
              refine lv_goto (tgt := 83) hx hb dX7_beltOf_78 (by decide) ?_
              refine lv_istore (lv' := [(4, .int v9), (5, .int v9), (3, .float v5), (2, .int v2)]) hx hb dX7_beltOf_83 hl (by decide) rfl (fun ls hl => ?_)
              refine lv_iinc (v := (v9 + (1 : Int32))) (lv' := [(5, .int (v9 + (1 : Int32))), (4, .int v9), (3, .float v5), (2, .int v2)]) hx hb dX7_beltOf_85 hl (k := 1) rfl rfl (by decide) rfl (fun ls hl => ?_)
              refine lv_goto (tgt := 48) hx hb dX7_beltOf_88 (by decide) ?_
              exact ih (v9 + (1 : Int32)) v9 _ _ _ hk hP hS (lv_sub hl [0, 1, 2, 3] rfl)
    exact lp7 1000 (1 : Int32) (0 : Int32) _ _ _ hk hP hS (lv_sub hl [0, 1, 2, 3] rfl)
  have lp1 : ∀ (n : Nat) (v3 : Int32) (v4 : Int32) (H : Heap) (locs : List Loc) (ls : Array Slot), f_X7_beltOf_L4 M p0 n v3 v4 k1 = some (r) → wP Z (X, M, O) H → va_S (wA Z s.heap.size) s.heap H locs → lv_has ls 6 [(3, .int v3), (2, .int v4), (0, .ref (Z.2.2 26 0)), (1, .int p0)] → W p l e (headSpec ws_X7_beltOf rm_X7_beltOf).room s m args below meth c H locs 0 0 (vx_MQ below (cQi Z (X, M, O) (.inl r) s.heap.size) (cX Z (X, M, O) (.inl r : Int32 ⊕ String) s.heap.size) args s 0 0 (wA Z s.heap.size)) (F0 m 4 ls []) := by
    intro n
    induction n with
    | zero =>
      intro v3 v4 H locs ls hk
      rw [f_X7_beltOf_L4] at hk
      exact nomatch (show none = some _ from hk)
    | succ n ih =>
      intro v3 v4 H locs ls hk hP hS hl
      rw [f_X7_beltOf_L4] at hk
      refine lv_iload_n hx hb dX7_beltOf_4 rfl (lv_at hl 0 rfl) ?_
      refine lv_aload_n hx hb dX7_beltOf_5 rfl (lv_at hl 2 rfl) ?_
      refine gf_RX7_19 hx hb hts hown hK hP (by decide) dX7_beltOf_6 ?_
      refine lv_icmp_ge (tgt := 36) hx hb dX7_beltOf_9 (by decide) (fun cz14 => ?_) (fun cz14 => ?_)
      · have hk := it_t cz14 hk
        exact ex1 v4 _ _ _ hk hP hS (lv_sub hl [1, 2, 3] rfl)
      · have hk := it_f cz14 hk
        refine lv_iload_n hx hb dX7_beltOf_12 rfl (lv_at hl 1 rfl) ?_
        refine lv_aload_n hx hb dX7_beltOf_13 rfl (lv_at hl 2 rfl) ?_
        refine lv_iload_n hx hb dX7_beltOf_14 rfl (lv_at hl 3 rfl) ?_
        refine lv_iload_n hx hb dX7_beltOf_15 rfl (lv_at hl 0 rfl) ?_
        obtain ⟨v15, hf16, hk⟩ := b0_s hk
        refine wc_iV0 (rest := [.int v4]) (As := [.int p0, .int v3]) ⟨hx, hb, hml, hown, hts⟩ (fun sz => k_X7_bestOf l hfl Z hZ X M O p0 v3 v15 hf16 sz) (cw_RX7_271 (args := args) (s := s) hts (Nat.le_of_ble_eq_true rfl) (Nat.le_of_ble_eq_true rfl)) hE hP hK hS (rv_26 hK hP (by decide)) rfl hl.1 rfl (Nat.le_of_ble_eq_true rfl) dX7_beltOf_16 ⟨Nat.le_of_ble_eq_true rfl, Nat.le_of_ble_eq_true rfl⟩ (fun H locs hP hS => ?_)
        refine lv_iconst (v := ((-1) : Int32)) hx hb dX7_beltOf_19 (by decide) ?_
        refine lv_icmp_ne (tgt := 27) hx hb dX7_beltOf_20 (by decide) (fun cz17 => ?_) (fun cz17 => ?_)
        · have hk := it_f cz17 hk
          refine lv_iconst (v := (1 : Int32)) hx hb dX7_beltOf_27 (by decide) ?_
          refine lv_iadd hx hb dX7_beltOf_28 ?_
          obtain ⟨v18, ev18, hk⟩ := lq_s hk
          refine W.eq (g2 := F0 m 29 ls [.int v18]) (by rw [ev18]) ?_
          refine lv_istore_n (lv' := [(2, .int v18), (3, .int v3), (0, .ref (Z.2.2 26 0)), (1, .int p0)]) hx hb dX7_beltOf_29 rfl hl (by decide) rfl (fun ls hl => ?_)
          refine lv_iinc (v := (v3 + (1 : Int32))) (lv' := [(3, .int (v3 + (1 : Int32))), (2, .int v18), (0, .ref (Z.2.2 26 0)), (1, .int p0)]) hx hb dX7_beltOf_30 hl (k := 1) rfl rfl (by decide) rfl (fun ls hl => ?_)
          refine lv_goto (tgt := 4) hx hb dX7_beltOf_33 (by decide) ?_
          exact ih (v3 + (1 : Int32)) v18 _ _ _ hk hP hS (lv_sub hl [0, 1, 2, 3] rfl)
        · have hk := it_t cz17 hk
          refine lv_iconst (v := (0 : Int32)) hx hb dX7_beltOf_23 (by decide) ?_
          refine lv_goto (tgt := 28) hx hb dX7_beltOf_24 (by decide) ?_
          refine lv_iadd hx hb dX7_beltOf_28 ?_
          obtain ⟨v19, ev19, hk⟩ := lq_s hk
          refine W.eq (g2 := F0 m 29 ls [.int v19]) (by rw [ev19]) ?_
          refine lv_istore_n (lv' := [(2, .int v19), (3, .int v3), (0, .ref (Z.2.2 26 0)), (1, .int p0)]) hx hb dX7_beltOf_29 rfl hl (by decide) rfl (fun ls hl => ?_)
          refine lv_iinc (v := (v3 + (1 : Int32))) (lv' := [(3, .int (v3 + (1 : Int32))), (2, .int v19), (0, .ref (Z.2.2 26 0)), (1, .int p0)]) hx hb dX7_beltOf_30 hl (k := 1) rfl rfl (by decide) rfl (fun ls hl => ?_)
          refine lv_goto (tgt := 4) hx hb dX7_beltOf_33 (by decide) ?_
          exact ih (v3 + (1 : Int32)) v19 _ _ _ hk hP hS (lv_sub hl [0, 1, 2, 3] rfl)
  exact lp1 1000 (0 : Int32) (0 : Int32) _ _ _ hk hP hS (lv_sub hl [0, 1, 2, 3] rfl)
set_option maxHeartbeats 4000000 in
set_option maxRecDepth 100000 in
theorem k_X7_vote (l : Launch) (hfl : l.stackTraces = false) (Z : ZT) (hZ : wD Z) (X M O : SS) (p0 : Int32) (p1 : Int32) (p2 : Int32) (Mz : SS) (r : Int32) (hf : f_X7_vote M p0 p1 p2 = some (Mz, r)) (sz : Nat) : vx_Met l yX7_vote ws_X7_vote rm_X7_vote (va_Pc [.ref (Z.2.2 26 0), .int p0, .int p1, .int p2] (cP Z (X, M, O) sz)) (cQi Z (X, Mz, O) (.inl r) sz) (cX Z (X, Mz, O) (.inl r : Int32 ⊕ String) sz) 0 0 (wA Z sz) := by
  refine vx_ofW (cc := cX7_vote) (maxL := 5) (ret := (some .int)) (by decide) rfl ?_
  intro p e s m args below meth c s₁ B hml htab hv
  obtain ⟨hargs, hsz, hE, hP, hK⟩ := hv
  have hx := B.exec
  have hb := B.bytes
  have hr := B.returns
  have hts0 := atoms_spec (ws := ws_X7_vote) B.pre
  have hts : ∀ w ∈ lw_all, w.before args s = true := fun w h => hts0 w (List.mem_cons_of_mem _ h)
  have hown : s.vm.findClass RX7 = some m.cls := findClass_of_methodNamed B.named
  have hlocks := B.notSynchronized
  have hout9 : ∀ (pc9 : Nat), ∀ x ∈ c.exceptionTable.toList, covers x pc9 = false := fun _ x hx9 => (htab x hx9).elim
  subst hsz
  have hS : va_S (wA Z s.heap.size) s.heap s.heap [] := va_S.rf
  have hl := lv_entry ([.ref (Z.2.2 26 0), .int p0, .int p1, .int p2]) (n := 5) (Nat.le_of_ble_eq_true rfl)
  have hen : entryFrame m args 5 = entryFrame m ([.ref (Z.2.2 26 0), .int p0, .int p1, .int p2] : List Value).toArray 5 := by rw [hargs]
  rw [hen, lg_entry_eq]
  generalize (lg_sl ([.ref (Z.2.2 26 0), .int p0, .int p1, .int p2]) ++ List.replicate (5 - (lg_sl ([.ref (Z.2.2 26 0), .int p0, .int p1, .int p2])).length) Slot.unset).toArray = ls at hl ⊢
  have hl : lv_has ls 5 [(0, .ref (Z.2.2 26 0)), (1, .int p0), (2, .int p1), (3, .int p2)] := hl
  have hk := hf
  unfold f_X7_vote at hk
  refine lv_aload_n hx hb dX7_vote_0 rfl (lv_at hl 0 rfl) ?_
  refine lv_iload_n hx hb dX7_vote_1 rfl (lv_at hl 1 rfl) ?_
  obtain ⟨v1, hf2, hk⟩ := b0_s hk
  refine wc_iV0 (rest := []) (As := [.int p0]) ⟨hx, hb, hml, hown, hts⟩ (fun sz => k_X7_isMember l hfl Z hZ X M O p0 v1 hf2 sz) (cw_RX7_214 (args := args) (s := s) hts (Nat.le_of_ble_eq_true rfl) (Nat.le_of_ble_eq_true rfl)) hE hP hK hS (rv_26 hK hP (by decide)) rfl hl.1 rfl (Nat.le_of_ble_eq_true rfl) dX7_vote_2 ⟨Nat.le_of_ble_eq_true rfl, Nat.le_of_ble_eq_true rfl⟩ (fun H locs hP hS => ?_)
  refine lv_if_eq (tgt := 16) hx hb dX7_vote_5 (by decide) (fun cz3 => ?_) (fun cz3 => ?_)
  · have hk := it_t cz3 hk
    refine lv_aload_n hx hb dX7_vote_16 rfl (lv_at hl 0 rfl) ?_
    refine lv_iconst (v := (1 : Int32)) hx hb dX7_vote_17 (by decide) ?_
    obtain ⟨M5, v4, hf6, hk⟩ := b1_s hk
    refine wc_iV0 (rest := []) (As := [.int (1 : Int32)]) ⟨hx, hb, hml, hown, hts⟩ (fun sz => k_X7_fails l hfl Z hZ X M O (1 : Int32) M5 v4 hf6 sz) (cw_RX7_165 (args := args) (s := s) hts (Nat.le_of_ble_eq_true rfl) (Nat.le_of_ble_eq_true rfl)) hE hP hK hS (rv_26 hK hP (by decide)) rfl hl.1 rfl (Nat.le_of_ble_eq_true rfl) dX7_vote_18 ⟨Nat.le_of_ble_eq_true rfl, Nat.le_of_ble_eq_true rfl⟩ (fun H locs hP hS => ?_)
    cases (show some _ = some _ from hk)
    exact we_i hx hb hr hlocks hP rfl hS dX7_vote_21 (by decide) (by decide)
  · have hk := it_f cz3 hk
    refine lv_aload_n hx hb dX7_vote_8 rfl (lv_at hl 0 rfl) ?_
    refine lv_iload_n hx hb dX7_vote_9 rfl (lv_at hl 2 rfl) ?_
    obtain ⟨v7, hf8, hk⟩ := b0_s hk
    refine wc_iV0 (rest := []) (As := [.int p1]) ⟨hx, hb, hml, hown, hts⟩ (fun sz => k_X7_isWork l hfl Z hZ X M O p1 v7 hf8 sz) (cw_RX7_227 (args := args) (s := s) hts (Nat.le_of_ble_eq_true rfl) (Nat.le_of_ble_eq_true rfl)) hE hP hK hS (rv_26 hK hP (by decide)) rfl hl.1 rfl (Nat.le_of_ble_eq_true rfl) dX7_vote_10 ⟨Nat.le_of_ble_eq_true rfl, Nat.le_of_ble_eq_true rfl⟩ (fun H locs hP hS => ?_)
    refine lv_if_ne (tgt := 22) hx hb dX7_vote_13 (by decide) (fun cz9 => ?_) (fun cz9 => ?_)
    · have hk := it_f cz9 hk
      refine lv_iload_n hx hb dX7_vote_22 rfl (lv_at hl 3 rfl) ?_
      refine lv_iconst (v := (1 : Int32)) hx hb dX7_vote_23 (by decide) ?_
      refine lv_iconst (v := (5 : Int32)) hx hb dX7_vote_24 (by decide) ?_
      obtain ⟨v10, hf11, hk⟩ := b0_s hk
      refine wc_iS0 (rest := []) (As := [.int p2, .int (1 : Int32), .int (5 : Int32)]) ⟨hx, hb, hml, hown, hts⟩ (fun sz => k_X7_in l hfl Z hZ X M O p2 (1 : Int32) (5 : Int32) v10 hf11 sz) (cw_RX7_161 (args := args) (s := s) hts (Nat.le_of_ble_eq_true rfl) (Nat.le_of_ble_eq_true rfl)) hE hP hK hS  rfl hl.1 rfl (Nat.le_of_ble_eq_true rfl) dX7_vote_25 ⟨Nat.le_of_ble_eq_true rfl, Nat.le_of_ble_eq_true rfl⟩ (fun H locs hP hS => ?_)
      refine lv_if_ne (tgt := 37) hx hb dX7_vote_28 (by decide) (fun cz12 => ?_) (fun cz12 => ?_)
      · have hk := it_f cz12 hk
        refine lv_aload_n hx hb dX7_vote_37 rfl (lv_at hl 0 rfl) ?_
        refine gf_RX7_78 hx hb hts hown hK hP (by decide) dX7_vote_38 ?_
        refine lv_iload_n hx hb dX7_vote_41 rfl (lv_at hl 2 rfl) ?_
        obtain ⟨hg13, hk⟩ := gd_s hk
        refine wa_iaload_39 hx hb hK hP (by decide) hg13 dX7_vote_42 ?_
        refine lv_iload_n hx hb dX7_vote_43 rfl (lv_at hl 1 rfl) ?_
        refine lv_icmp_eq (tgt := 67) hx hb dX7_vote_44 (by decide) (fun cz14 => ?_) (fun cz14 => ?_)
        · have hk := it_t cz14 hk
          refine lv_aload_n hx hb dX7_vote_67 rfl (lv_at hl 0 rfl) ?_
          refine lv_iconst (v := (3 : Int32)) hx hb dX7_vote_68 (by decide) ?_
          obtain ⟨M16, v15, hf17, hk⟩ := b1_s hk
          refine wc_iV0 (rest := []) (As := [.int (3 : Int32)]) ⟨hx, hb, hml, hown, hts⟩ (fun sz => k_X7_fails l hfl Z hZ X M O (3 : Int32) M16 v15 hf17 sz) (cw_RX7_165 (args := args) (s := s) hts (Nat.le_of_ble_eq_true rfl) (Nat.le_of_ble_eq_true rfl)) hE hP hK hS (rv_26 hK hP (by decide)) rfl hl.1 rfl (Nat.le_of_ble_eq_true rfl) dX7_vote_69 ⟨Nat.le_of_ble_eq_true rfl, Nat.le_of_ble_eq_true rfl⟩ (fun H locs hP hS => ?_)
          cases (show some _ = some _ from hk)
          exact we_i hx hb hr hlocks hP rfl hS dX7_vote_72 (by decide) (by decide)
        · have hk := it_f cz14 hk
          refine lv_aload_n hx hb dX7_vote_47 rfl (lv_at hl 0 rfl) ?_
          refine gf_RX7_91 hx hb hts hown hK hP (by decide) dX7_vote_48 ?_
          refine lv_iload_n hx hb dX7_vote_51 rfl (lv_at hl 2 rfl) ?_
          obtain ⟨hg18, hk⟩ := gd_s hk
          refine wa_baload_43 hx hb hK hP (by decide) hg18 dX7_vote_52 ?_
          refine lv_if_eq (tgt := 67) hx hb dX7_vote_53 (by decide) (fun cz19 => ?_) (fun cz19 => ?_)
          · have hk := it_t cz19 hk
            refine lv_aload_n hx hb dX7_vote_67 rfl (lv_at hl 0 rfl) ?_
            refine lv_iconst (v := (3 : Int32)) hx hb dX7_vote_68 (by decide) ?_
            obtain ⟨M21, v20, hf22, hk⟩ := b1_s hk
            refine wc_iV0 (rest := []) (As := [.int (3 : Int32)]) ⟨hx, hb, hml, hown, hts⟩ (fun sz => k_X7_fails l hfl Z hZ X M O (3 : Int32) M21 v20 hf22 sz) (cw_RX7_165 (args := args) (s := s) hts (Nat.le_of_ble_eq_true rfl) (Nat.le_of_ble_eq_true rfl)) hE hP hK hS (rv_26 hK hP (by decide)) rfl hl.1 rfl (Nat.le_of_ble_eq_true rfl) dX7_vote_69 ⟨Nat.le_of_ble_eq_true rfl, Nat.le_of_ble_eq_true rfl⟩ (fun H locs hP hS => ?_)
            cases (show some _ = some _ from hk)
            exact we_i hx hb hr hlocks hP rfl hS dX7_vote_72 (by decide) (by decide)
          · have hk := it_f cz19 hk
            refine lv_aload_n hx hb dX7_vote_56 rfl (lv_at hl 0 rfl) ?_
            refine gf_RX7_88 hx hb hts hown hK hP (by decide) dX7_vote_57 ?_
            refine lv_iload_n hx hb dX7_vote_60 rfl (lv_at hl 2 rfl) ?_
            obtain ⟨hg23, hk⟩ := gd_s hk
            refine wa_caload_42 hx hb hK hP (by decide) hg23 dX7_vote_61 ?_
            refine lv_bipush (v := (102 : Int32)) hx hb dX7_vote_62 (by decide) ?_
            refine lv_icmp_ne (tgt := 73) hx hb dX7_vote_64 (by decide) (fun cz24 => ?_) (fun cz24 => ?_)
            · have hk := it_f cz24 hk
              refine lv_aload_n hx hb dX7_vote_73 rfl (lv_at hl 0 rfl) ?_
              refine lv_iload_n hx hb dX7_vote_74 rfl (lv_at hl 1 rfl) ?_
              obtain ⟨v25, hf26, hk⟩ := b0_s hk
              refine wc_iV0 (rest := []) (As := [.int p0]) ⟨hx, hb, hml, hown, hts⟩ (fun sz => k_X7_beltOf l hfl Z hZ X M O p0 v25 hf26 sz) (cw_RX7_256 (args := args) (s := s) hts (Nat.le_of_ble_eq_true rfl) (Nat.le_of_ble_eq_true rfl)) hE hP hK hS (rv_26 hK hP (by decide)) rfl hl.1 rfl (Nat.le_of_ble_eq_true rfl) dX7_vote_75 ⟨Nat.le_of_ble_eq_true rfl, Nat.le_of_ble_eq_true rfl⟩ (fun H locs hP hS => ?_)
              refine lv_iconst (v := (1 : Int32)) hx hb dX7_vote_78 (by decide) ?_
              refine lv_iadd hx hb dX7_vote_79 ?_
              obtain ⟨v27, ev27, hk⟩ := lq_s hk
              refine W.eq (g2 := F0 m 80 ls [.int v27]) (by rw [ev27]) ?_
              refine lv_istore (lv' := [(4, .int v27), (0, .ref (Z.2.2 26 0)), (1, .int p0), (2, .int p1), (3, .int p2)]) hx hb dX7_vote_80 hl (by decide) rfl (fun ls hl => ?_)
              refine lv_aload_n hx hb dX7_vote_82 rfl (lv_at hl 1 rfl) ?_
              refine gf_RX7_101 hx hb hts hown hK hP (by decide) dX7_vote_83 ?_
              refine lv_bipush (v := (10 : Int32)) hx hb dX7_vote_86 (by decide) ?_
              refine lv_iload_n hx hb dX7_vote_88 rfl (lv_at hl 3 rfl) ?_
              refine lv_imul hx hb dX7_vote_89 ?_
              refine lv_iload_n hx hb dX7_vote_90 rfl (lv_at hl 2 rfl) ?_
              refine lv_iadd hx hb dX7_vote_91 ?_
              refine lv_iload_n hx hb dX7_vote_92 rfl (lv_at hl 4 rfl) ?_
              obtain ⟨hg28, hk⟩ := gd_s hk
              obtain ⟨M29, eM29, hk⟩ := lq_s hk
              refine wa_iastore_46 hx hb hZ hK hP hS (by decide) hg28 dX7_vote_93 (fun H locs hP hS => ?_)
              rw [← eM29] at hP
              refine lv_aload_n hx hb dX7_vote_94 rfl (lv_at hl 1 rfl) ?_
              refine gf_RX7_104 hx hb hts hown hK hP (by decide) dX7_vote_95 ?_
              refine lv_bipush (v := (10 : Int32)) hx hb dX7_vote_98 (by decide) ?_
              refine lv_iload_n hx hb dX7_vote_100 rfl (lv_at hl 3 rfl) ?_
              refine lv_imul hx hb dX7_vote_101 ?_
              refine lv_iload_n hx hb dX7_vote_102 rfl (lv_at hl 2 rfl) ?_
              refine lv_iadd hx hb dX7_vote_103 ?_
              refine lv_iload hx hb dX7_vote_104 (lv_at hl 0 rfl) ?_
              obtain ⟨hg30, hk⟩ := gd_s hk
              obtain ⟨M31, eM31, hk⟩ := lq_s hk
              refine wa_iastore_47 hx hb hZ hK hP hS (by decide) hg30 dX7_vote_106 (fun H locs hP hS => ?_)
              rw [← eM31] at hP
              refine lv_aload_n hx hb dX7_vote_107 rfl (lv_at hl 1 rfl) ?_
              refine lv_iload hx hb dX7_vote_108 (lv_at hl 0 rfl) ?_
              obtain ⟨M33, v32, hf34, hk⟩ := b1_s hk
              refine wc_iV0 (rest := []) (As := [.int v27]) ⟨hx, hb, hml, hown, hts⟩ (fun sz => k_X7_tells l hfl Z hZ X M31 O v27 M33 v32 hf34 sz) (cw_RX7_169 (args := args) (s := s) hts (Nat.le_of_ble_eq_true rfl) (Nat.le_of_ble_eq_true rfl)) hE hP hK hS (rv_26 hK hP (by decide)) rfl hl.1 rfl (Nat.le_of_ble_eq_true rfl) dX7_vote_110 ⟨Nat.le_of_ble_eq_true rfl, Nat.le_of_ble_eq_true rfl⟩ (fun H locs hP hS => ?_)
              cases (show some _ = some _ from hk)
              exact we_i hx hb hr hlocks hP rfl hS dX7_vote_113 (by decide) (by decide)
            · have hk := it_t cz24 hk
              refine lv_aload_n hx hb dX7_vote_67 rfl (lv_at hl 0 rfl) ?_
              refine lv_iconst (v := (3 : Int32)) hx hb dX7_vote_68 (by decide) ?_
              obtain ⟨M36, v35, hf37, hk⟩ := b1_s hk
              refine wc_iV0 (rest := []) (As := [.int (3 : Int32)]) ⟨hx, hb, hml, hown, hts⟩ (fun sz => k_X7_fails l hfl Z hZ X M O (3 : Int32) M36 v35 hf37 sz) (cw_RX7_165 (args := args) (s := s) hts (Nat.le_of_ble_eq_true rfl) (Nat.le_of_ble_eq_true rfl)) hE hP hK hS (rv_26 hK hP (by decide)) rfl hl.1 rfl (Nat.le_of_ble_eq_true rfl) dX7_vote_69 ⟨Nat.le_of_ble_eq_true rfl, Nat.le_of_ble_eq_true rfl⟩ (fun H locs hP hS => ?_)
              cases (show some _ = some _ from hk)
              exact we_i hx hb hr hlocks hP rfl hS dX7_vote_72 (by decide) (by decide)
      · have hk := it_t cz12 hk
        refine lv_aload_n hx hb dX7_vote_31 rfl (lv_at hl 0 rfl) ?_
        refine lv_iconst (v := (2 : Int32)) hx hb dX7_vote_32 (by decide) ?_
        obtain ⟨M39, v38, hf40, hk⟩ := b1_s hk
        refine wc_iV0 (rest := []) (As := [.int (2 : Int32)]) ⟨hx, hb, hml, hown, hts⟩ (fun sz => k_X7_fails l hfl Z hZ X M O (2 : Int32) M39 v38 hf40 sz) (cw_RX7_165 (args := args) (s := s) hts (Nat.le_of_ble_eq_true rfl) (Nat.le_of_ble_eq_true rfl)) hE hP hK hS (rv_26 hK hP (by decide)) rfl hl.1 rfl (Nat.le_of_ble_eq_true rfl) dX7_vote_33 ⟨Nat.le_of_ble_eq_true rfl, Nat.le_of_ble_eq_true rfl⟩ (fun H locs hP hS => ?_)
        cases (show some _ = some _ from hk)
        exact we_i hx hb hr hlocks hP rfl hS dX7_vote_36 (by decide) (by decide)
    · have hk := it_t cz9 hk
      refine lv_aload_n hx hb dX7_vote_16 rfl (lv_at hl 0 rfl) ?_
      refine lv_iconst (v := (1 : Int32)) hx hb dX7_vote_17 (by decide) ?_
      obtain ⟨M42, v41, hf43, hk⟩ := b1_s hk
      refine wc_iV0 (rest := []) (As := [.int (1 : Int32)]) ⟨hx, hb, hml, hown, hts⟩ (fun sz => k_X7_fails l hfl Z hZ X M O (1 : Int32) M42 v41 hf43 sz) (cw_RX7_165 (args := args) (s := s) hts (Nat.le_of_ble_eq_true rfl) (Nat.le_of_ble_eq_true rfl)) hE hP hK hS (rv_26 hK hP (by decide)) rfl hl.1 rfl (Nat.le_of_ble_eq_true rfl) dX7_vote_18 ⟨Nat.le_of_ble_eq_true rfl, Nat.le_of_ble_eq_true rfl⟩ (fun H locs hP hS => ?_)
      cases (show some _ = some _ from hk)
      exact we_i hx hb hr hlocks hP rfl hS dX7_vote_21 (by decide) (by decide)
set_option maxHeartbeats 4000000 in
set_option maxRecDepth 100000 in
theorem k_X7_style (l : Launch) (hfl : l.stackTraces = false) (Z : ZT) (hZ : wD Z) (X M O : SS) (p0 : Int32) (p1 : Int32) (Mz : SS) (r : Int64) (hf : f_X7_style M p0 p1 = some (Mz, r)) (sz : Nat) : vx_Met l yX7_style ws_X7_style rm_X7_style (va_Pc [.ref (Z.2.2 26 0), .int p0, .int p1] (cP Z (X, M, O) sz)) (cQl Z (X, Mz, O) (.inl r) sz) (cX Z (X, Mz, O) (.inl r : Int64 ⊕ String) sz) 0 0 (wA Z sz) := by
  refine vx_ofW (cc := cX7_style) (maxL := 8) (ret := (some .long)) (by decide) rfl ?_
  intro p e s m args below meth c s₁ B hml htab hv
  obtain ⟨hargs, hsz, hE, hP, hK⟩ := hv
  have hx := B.exec
  have hb := B.bytes
  have hr := B.returns
  have hts0 := atoms_spec (ws := ws_X7_style) B.pre
  have hts : ∀ w ∈ lw_all, w.before args s = true := fun w h => hts0 w (List.mem_cons_of_mem _ h)
  have hown : s.vm.findClass RX7 = some m.cls := findClass_of_methodNamed B.named
  have hlocks := B.notSynchronized
  have hout9 : ∀ (pc9 : Nat), ∀ x ∈ c.exceptionTable.toList, covers x pc9 = false := fun _ x hx9 => (htab x hx9).elim
  subst hsz
  have hS : va_S (wA Z s.heap.size) s.heap s.heap [] := va_S.rf
  have hl := lv_entry ([.ref (Z.2.2 26 0), .int p0, .int p1]) (n := 8) (Nat.le_of_ble_eq_true rfl)
  have hen : entryFrame m args 8 = entryFrame m ([.ref (Z.2.2 26 0), .int p0, .int p1] : List Value).toArray 8 := by rw [hargs]
  rw [hen, lg_entry_eq]
  generalize (lg_sl ([.ref (Z.2.2 26 0), .int p0, .int p1]) ++ List.replicate (8 - (lg_sl ([.ref (Z.2.2 26 0), .int p0, .int p1])).length) Slot.unset).toArray = ls at hl ⊢
  have hl : lv_has ls 8 [(0, .ref (Z.2.2 26 0)), (1, .int p0), (2, .int p1)] := hl
  have hk := hf
  unfold f_X7_style at hk
  refine lv_aload_n hx hb dX7_style_0 rfl (lv_at hl 0 rfl) ?_
  refine lv_aload_n hx hb dX7_style_1 rfl (lv_at hl 0 rfl) ?_
  refine lv_iload_n hx hb dX7_style_2 rfl (lv_at hl 1 rfl) ?_
  obtain ⟨v1, hf2, hk⟩ := b0_s hk
  refine wc_iV0 (rest := [.ref (Z.2.2 26 0)]) (As := [.int p0]) ⟨hx, hb, hml, hown, hts⟩ (fun sz => k_X7_isWork l hfl Z hZ X M O p0 v1 hf2 sz) (cw_RX7_227 (args := args) (s := s) hts (Nat.le_of_ble_eq_true rfl) (Nat.le_of_ble_eq_true rfl)) hE hP hK hS (rv_26 hK hP (by decide)) rfl hl.1 rfl (Nat.le_of_ble_eq_true rfl) dX7_style_3 ⟨Nat.le_of_ble_eq_true rfl, Nat.le_of_ble_eq_true rfl⟩ (fun H locs hP hS => ?_)
  have jn4 : ∀ (v3 : Int32) (H : Heap) (locs : List Loc) (ls : Array Slot), f_X7_style_J14 M p0 p1 v3 = some (Mz, r) → wP Z (X, M, O) H → va_S (wA Z s.heap.size) s.heap H locs → lv_has ls 8 [(0, .ref (Z.2.2 26 0)), (1, .int p0), (2, .int p1)] → W p l e (headSpec ws_X7_style rm_X7_style).room s m args below meth c H locs 0 0 (vx_MQ below (cQl Z (X, Mz, O) (.inl r) s.heap.size) (cX Z (X, Mz, O) (.inl r : Int64 ⊕ String) s.heap.size) args s 0 0 (wA Z s.heap.size)) (F0 m 14 ls [.int v3, .ref (Z.2.2 26 0)]) := by
    intro v3 H locs ls hk hP hS hl
    unfold f_X7_style_J14 at hk
    obtain ⟨M5, eM5, hk⟩ := lq_s hk
    refine pf_RX7_37 hx hb hts hown hZ hK hP hS (by decide) dX7_style_14 (fun H locs hP hS => ?_)
    rw [← eM5] at hP
    refine lv_aload_n hx hb dX7_style_17 rfl (lv_at hl 0 rfl) ?_
    refine gf_RX7_37 hx hb hts hown hK hP (by decide) dX7_style_18 ?_
    refine lv_if_le (tgt := 26) hx hb dX7_style_21 (by decide) (fun cz6 => ?_) (fun cz6 => ?_)
    · have hk := it_t cz6 hk
      refine lv_aload_n hx hb dX7_style_26 rfl (lv_at hl 0 rfl) ?_
      refine lv_iload_n hx hb dX7_style_27 rfl (lv_at hl 1 rfl) ?_
      obtain ⟨v7, hf8, hk⟩ := b0_s hk
      refine wc_iV0 (rest := []) (As := [.int p0]) ⟨hx, hb, hml, hown, hts⟩ (fun sz => k_X7_weighed l hfl Z hZ X M5 O p0 v7 hf8 sz) (cw_RX7_259 (args := args) (s := s) hts (Nat.le_of_ble_eq_true rfl) (Nat.le_of_ble_eq_true rfl)) hE hP hK hS (rv_26 hK hP (by decide)) rfl hl.1 rfl (Nat.le_of_ble_eq_true rfl) dX7_style_28 ⟨Nat.le_of_ble_eq_true rfl, Nat.le_of_ble_eq_true rfl⟩ (fun H locs hP hS => ?_)
      refine lv_istore_n (lv' := [(3, .int v7), (0, .ref (Z.2.2 26 0)), (1, .int p0), (2, .int p1)]) hx hb dX7_style_31 rfl hl (by decide) rfl (fun ls hl => ?_)
      refine lv_aload_n hx hb dX7_style_32 rfl (lv_at hl 1 rfl) ?_
      refine lv_iload_n hx hb dX7_style_33 rfl (lv_at hl 2 rfl) ?_
      obtain ⟨v9, hf10, hk⟩ := b0_s hk
      refine wc_iV0 (rest := []) (As := [.int p0]) ⟨hx, hb, hml, hown, hts⟩ (fun sz => k_X7_weightOf l hfl Z hZ X M5 O p0 v9 hf10 sz) (cw_RX7_233 (args := args) (s := s) hts (Nat.le_of_ble_eq_true rfl) (Nat.le_of_ble_eq_true rfl)) hE hP hK hS (rv_26 hK hP (by decide)) rfl hl.1 rfl (Nat.le_of_ble_eq_true rfl) dX7_style_34 ⟨Nat.le_of_ble_eq_true rfl, Nat.le_of_ble_eq_true rfl⟩ (fun H locs hP hS => ?_)
      refine lv_istore (lv' := [(4, .int v9), (3, .int v7), (0, .ref (Z.2.2 26 0)), (1, .int p0), (2, .int p1)]) hx hb dX7_style_37 hl (by decide) rfl (fun ls hl => ?_)
      refine lv_iload_n hx hb dX7_style_39 rfl (lv_at hl 1 rfl) ?_
      refine lv_istore (lv' := [(5, .int v7), (4, .int v9), (3, .int v7), (0, .ref (Z.2.2 26 0)), (1, .int p0), (2, .int p1)]) hx hb dX7_style_40 hl (by decide) rfl (fun ls hl => ?_)
      refine lv_iload hx hb dX7_style_42 (lv_at hl 1 rfl) ?_
      refine lv_istore (lv' := [(6, .int v9), (5, .int v7), (4, .int v9), (3, .int v7), (0, .ref (Z.2.2 26 0)), (1, .int p0), (2, .int p1)]) hx hb dX7_style_44 hl (by decide) rfl (fun ls hl => ?_)
      obtain ⟨k11, hk11, hk⟩ := gn hk
      have ex11 : ∀ (v12 : Int32) (H : Heap) (locs : List Loc) (ls : Array Slot), k11 v12 = some (Mz, r) → wP Z (X, M5, O) H → va_S (wA Z s.heap.size) s.heap H locs → lv_has ls 8 [(5, .int v12), (4, .int v9), (3, .int v7), (2, .int p1)] → W p l e (headSpec ws_X7_style rm_X7_style).room s m args below meth c H locs 0 0 (vx_MQ below (cQl Z (X, Mz, O) (.inl r) s.heap.size) (cX Z (X, Mz, O) (.inl r : Int64 ⊕ String) s.heap.size) args s 0 0 (wA Z s.heap.size)) (F0 m 69 ls []) := by
        intro v12 H locs ls hk hP hS hl
        subst hk11
        refine lv_iload hx hb dX7_style_69 (lv_at hl 1 rfl) ?_
        refine lv_if_ne (tgt := 78) hx hb dX7_style_71 (by decide) (fun cz15 => ?_) (fun cz15 => ?_)
        · have hk := it_f cz15 hk
          refine lv_iload_n hx hb dX7_style_78 rfl (lv_at hl 3 rfl) ?_
          refine lv_if_eq (tgt := 91) hx hb dX7_style_79 (by decide) (fun cz16 => ?_) (fun cz16 => ?_)
          · have hk := it_t cz16 hk
            refine lv_iload_n hx hb dX7_style_91 rfl (lv_at hl 2 rfl) ?_
            refine lv_iload hx hb dX7_style_92 (lv_at hl 0 rfl) ?_
            obtain ⟨hg17, hk⟩ := gd_s hk
            refine lv_idiv hx hb dX7_style_94 hg17 ?_
            refine lv_i2l (v := ((v7 / v12)).toInt64) hx hb dX7_style_95 rfl ?_
            cases (show some _ = some _ from hk)
            exact we_l hx hb hr hlocks hP rfl hS dX7_style_96 (by decide) (by decide)
          · have hk := it_f cz16 hk
            refine lv_iload hx hb dX7_style_82 (lv_at hl 1 rfl) ?_
            refine lv_iload hx hb dX7_style_84 (lv_at hl 0 rfl) ?_
            obtain ⟨hg18, hk⟩ := gd_s hk
            refine lv_idiv hx hb dX7_style_86 hg18 ?_
            refine lv_i2l (v := ((v9 / v12)).toInt64) hx hb dX7_style_87 rfl ?_
            refine lv_goto (tgt := 96) hx hb dX7_style_88 (by decide) ?_
            cases (show some _ = some _ from hk)
            exact we_l hx hb hr hlocks hP rfl hS dX7_style_96 (by decide) (by decide)
        · have hk := it_t cz15 hk
          refine lv_lconst (v := (1 : Int64)) hx hb dX7_style_74 (by decide) ?_
          refine lv_goto (tgt := 96) hx hb dX7_style_75 (by decide) ?_
          cases (show some _ = some _ from hk)
          exact we_l hx hb hr hlocks hP rfl hS dX7_style_96 (by decide) (by decide)
      have lp11 : ∀ (n : Nat) (v13 : Int32) (v14 : Int32) (H : Heap) (locs : List Loc) (ls : Array Slot), f_X7_style_L46  n v13 v14 k11 = some (Mz, r) → wP Z (X, M5, O) H → va_S (wA Z s.heap.size) s.heap H locs → lv_has ls 8 [(6, .int v13), (5, .int v14), (4, .int v9), (3, .int v7), (2, .int p1)] → W p l e (headSpec ws_X7_style rm_X7_style).room s m args below meth c H locs 0 0 (vx_MQ below (cQl Z (X, Mz, O) (.inl r) s.heap.size) (cX Z (X, Mz, O) (.inl r : Int64 ⊕ String) s.heap.size) args s 0 0 (wA Z s.heap.size)) (F0 m 46 ls []) := by
        intro n
        induction n with
        | zero =>
          intro v13 v14 H locs ls hk
          rw [f_X7_style_L46] at hk
          exact nomatch (show none = some _ from hk)
        | succ n ih =>
          intro v13 v14 H locs ls hk hP hS hl
          rw [f_X7_style_L46] at hk
          refine lv_iload hx hb dX7_style_46 (lv_at hl 0 rfl) ?_
          refine lv_if_le (tgt := 69) hx hb dX7_style_48 (by decide) (fun cz19 => ?_) (fun cz19 => ?_)
          · have hk := it_t cz19 hk
            exact ex11 v14 _ _ _ hk hP hS (lv_sub hl [1, 2, 3, 4] rfl)
          · have hk := it_f cz19 hk
            refine lv_iload hx hb dX7_style_51 (lv_at hl 1 rfl) ?_
            refine lv_iload hx hb dX7_style_53 (lv_at hl 0 rfl) ?_
            obtain ⟨hg20, hk⟩ := gd_s hk
            refine lv_irem hx hb dX7_style_55 hg20 ?_
            obtain ⟨v21, ev21, hk⟩ := lq_s hk
            refine W.eq (g2 := F0 m 56 ls [.int v21]) (by rw [ev21]) ?_
            refine lv_istore (lv' := [(7, .int v21), (6, .int v13), (5, .int v14), (4, .int v9), (3, .int v7), (2, .int p1)]) hx hb dX7_style_56 hl (by decide) rfl (fun ls hl => ?_)
            refine lv_iload hx hb dX7_style_58 (lv_at hl 1 rfl) ?_
            refine lv_istore (lv' := [(5, .int v13), (7, .int v21), (6, .int v13), (4, .int v9), (3, .int v7), (2, .int p1)]) hx hb dX7_style_60 hl (by decide) rfl (fun ls hl => ?_)
            refine lv_iload hx hb dX7_style_62 (lv_at hl 1 rfl) ?_
            refine lv_istore (lv' := [(6, .int v21), (5, .int v13), (7, .int v21), (4, .int v9), (3, .int v7), (2, .int p1)]) hx hb dX7_style_64 hl (by decide) rfl (fun ls hl => ?_)
            refine lv_goto (tgt := 46) hx hb dX7_style_66 (by decide) ?_
            exact ih v21 v13 _ _ _ hk hP hS (lv_sub hl [0, 1, 3, 4, 5] rfl)
      exact lp11 1000 v9 v7 _ _ _ hk hP hS (lv_sub hl [0, 1, 2, 3, 6] rfl)
    · have hk := it_f cz6 hk
      refine lv_lconst (v := (0 : Int64)) hx hb dX7_style_24 (by decide) ?_
      cases (show some _ = some _ from hk)
      exact we_l hx hb hr hlocks hP rfl hS dX7_style_25 (by decide) (by decide)
  refine lv_if_eq (tgt := 13) hx hb dX7_style_6 (by decide) (fun cz22 => ?_) (fun cz22 => ?_)
  · have hk := it_t cz22 hk
    refine lv_iconst (v := (1 : Int32)) hx hb dX7_style_13 (by decide) ?_
    exact jn4 (1 : Int32) _ _ _ hk hP hS (lv_sub hl [0, 1, 2] rfl)
  · have hk := it_f cz22 hk
    refine lv_iconst (v := (0 : Int32)) hx hb dX7_style_9 (by decide) ?_
    refine lv_goto (tgt := 14) hx hb dX7_style_10 (by decide) ?_
    exact jn4 (0 : Int32) _ _ _ hk hP hS (lv_sub hl [0, 1, 2] rfl)
set_option maxHeartbeats 4000000 in
set_option maxRecDepth 100000 in
theorem k_X7_isAhead (l : Launch) (hfl : l.stackTraces = false) (Z : ZT) (hZ : wD Z) (X M O : SS) (p0 : Int32) (p1 : Int32) (r : Int32) (hf : f_X7_isAhead M p0 p1 = some (r)) (sz : Nat) : vx_Met l yX7_isAhead ws_X7_isAhead rm_X7_isAhead (va_Pc [.ref (Z.2.2 26 0), .int p0, .int p1] (cP Z (X, M, O) sz)) (cQi Z (X, M, O) (.inl r) sz) (cX Z (X, M, O) (.inl r : Int32 ⊕ String) sz) 0 0 (wA Z sz) := by
  refine vx_ofW (cc := cX7_isAhead) (maxL := 4) (ret := (some .boolean)) (by decide) rfl ?_
  intro p e s m args below meth c s₁ B hml htab hv
  obtain ⟨hargs, hsz, hE, hP, hK⟩ := hv
  have hx := B.exec
  have hb := B.bytes
  have hr := B.returns
  have hts0 := atoms_spec (ws := ws_X7_isAhead) B.pre
  have hts : ∀ w ∈ lw_all, w.before args s = true := fun w h => hts0 w (List.mem_cons_of_mem _ h)
  have hown : s.vm.findClass RX7 = some m.cls := findClass_of_methodNamed B.named
  have hlocks := B.notSynchronized
  have hout9 : ∀ (pc9 : Nat), ∀ x ∈ c.exceptionTable.toList, covers x pc9 = false := fun _ x hx9 => (htab x hx9).elim
  subst hsz
  have hS : va_S (wA Z s.heap.size) s.heap s.heap [] := va_S.rf
  have hl := lv_entry ([.ref (Z.2.2 26 0), .int p0, .int p1]) (n := 4) (Nat.le_of_ble_eq_true rfl)
  have hen : entryFrame m args 4 = entryFrame m ([.ref (Z.2.2 26 0), .int p0, .int p1] : List Value).toArray 4 := by rw [hargs]
  rw [hen, lg_entry_eq]
  generalize (lg_sl ([.ref (Z.2.2 26 0), .int p0, .int p1]) ++ List.replicate (4 - (lg_sl ([.ref (Z.2.2 26 0), .int p0, .int p1])).length) Slot.unset).toArray = ls at hl ⊢
  have hl : lv_has ls 4 [(0, .ref (Z.2.2 26 0)), (1, .int p0), (2, .int p1)] := hl
  have hk := hf
  unfold f_X7_isAhead at hk
  refine lv_aload_n hx hb dX7_isAhead_0 rfl (lv_at hl 0 rfl) ?_
  refine lv_iload_n hx hb dX7_isAhead_1 rfl (lv_at hl 2 rfl) ?_
  obtain ⟨v1, hf2, hk⟩ := b0_s hk
  refine wc_iV0 (rest := []) (As := [.int p1]) ⟨hx, hb, hml, hown, hts⟩ (fun sz => k_X7_votesOf l hfl Z hZ X M O p1 v1 hf2 sz) (cw_RX7_230 (args := args) (s := s) hts (Nat.le_of_ble_eq_true rfl) (Nat.le_of_ble_eq_true rfl)) hE hP hK hS (rv_26 hK hP (by decide)) rfl hl.1 rfl (Nat.le_of_ble_eq_true rfl) dX7_isAhead_2 ⟨Nat.le_of_ble_eq_true rfl, Nat.le_of_ble_eq_true rfl⟩ (fun H locs hP hS => ?_)
  refine lv_aload_n hx hb dX7_isAhead_5 rfl (lv_at hl 0 rfl) ?_
  refine lv_iload_n hx hb dX7_isAhead_6 rfl (lv_at hl 1 rfl) ?_
  obtain ⟨v3, hf4, hk⟩ := b0_s hk
  refine wc_iV0 (rest := [.int v1]) (As := [.int p0]) ⟨hx, hb, hml, hown, hts⟩ (fun sz => k_X7_votesOf l hfl Z hZ X M O p0 v3 hf4 sz) (cw_RX7_230 (args := args) (s := s) hts (Nat.le_of_ble_eq_true rfl) (Nat.le_of_ble_eq_true rfl)) hE hP hK hS (rv_26 hK hP (by decide)) rfl hl.1 rfl (Nat.le_of_ble_eq_true rfl) dX7_isAhead_7 ⟨Nat.le_of_ble_eq_true rfl, Nat.le_of_ble_eq_true rfl⟩ (fun H locs hP hS => ?_)
  refine lv_isub hx hb dX7_isAhead_10 ?_
  obtain ⟨v5, ev5, hk⟩ := lq_s hk
  refine W.eq (g2 := F0 m 11 ls [.int v5]) (by rw [ev5]) ?_
  refine lv_istore_n (lv' := [(3, .int v5), (0, .ref (Z.2.2 26 0)), (1, .int p0), (2, .int p1)]) hx hb dX7_isAhead_11 rfl hl (by decide) rfl (fun ls hl => ?_)
  refine lv_iload_n hx hb dX7_isAhead_12 rfl (lv_at hl 0 rfl) ?_
  refine lv_if_gt (tgt := 45) hx hb dX7_isAhead_13 (by decide) (fun cz6 => ?_) (fun cz6 => ?_)
  · have hk := it_t cz6 hk
    refine lv_iconst (v := (1 : Int32)) hx hb dX7_isAhead_45 (by decide) ?_
    refine lv_goto (tgt := 50) hx hb dX7_isAhead_46 (by decide) ?_
    cases (show some _ = some _ from hk)
    exact we_z hx hb hr hlocks (show okz (1 : Int32) by unfold okz; decide).1 hP rfl hS dX7_isAhead_50 (by decide) (by decide)
  · have hk := it_f cz6 hk
    refine lv_iload_n hx hb dX7_isAhead_16 rfl (lv_at hl 0 rfl) ?_
    refine lv_if_ne (tgt := 49) hx hb dX7_isAhead_17 (by decide) (fun cz7 => ?_) (fun cz7 => ?_)
    · have hk := it_f cz7 hk
      refine lv_iconst (v := (0 : Int32)) hx hb dX7_isAhead_49 (by decide) ?_
      cases (show some _ = some _ from hk)
      exact we_z hx hb hr hlocks (show okz (0 : Int32) by unfold okz; decide).1 hP rfl hS dX7_isAhead_50 (by decide) (by decide)
    · have hk := it_t cz7 hk
      refine lv_aload_n hx hb dX7_isAhead_20 rfl (lv_at hl 1 rfl) ?_
      refine gf_RX7_57 hx hb hts hown hK hP (by decide) dX7_isAhead_21 ?_
      refine lv_aload_n hx hb dX7_isAhead_24 rfl (lv_at hl 1 rfl) ?_
      refine gf_RX7_81 hx hb hts hown hK hP (by decide) dX7_isAhead_25 ?_
      refine lv_iload_n hx hb dX7_isAhead_28 rfl (lv_at hl 2 rfl) ?_
      obtain ⟨hg8, hk⟩ := gd_s hk
      refine wa_iaload_40 hx hb hK hP (by decide) hg8 dX7_isAhead_29 ?_
      obtain ⟨hg9, hk⟩ := gd_s hk
      refine wa_iaload_32 hx hb hK hP (by decide) hg9 dX7_isAhead_30 ?_
      refine lv_aload_n hx hb dX7_isAhead_31 rfl (lv_at hl 1 rfl) ?_
      refine gf_RX7_57 hx hb hts hown hK hP (by decide) dX7_isAhead_32 ?_
      refine lv_aload_n hx hb dX7_isAhead_35 rfl (lv_at hl 1 rfl) ?_
      refine gf_RX7_81 hx hb hts hown hK hP (by decide) dX7_isAhead_36 ?_
      refine lv_iload_n hx hb dX7_isAhead_39 rfl (lv_at hl 3 rfl) ?_
      obtain ⟨hg10, hk⟩ := gd_s hk
      refine wa_iaload_40 hx hb hK hP (by decide) hg10 dX7_isAhead_40 ?_
      obtain ⟨hg11, hk⟩ := gd_s hk
      refine wa_iaload_32 hx hb hK hP (by decide) hg11 dX7_isAhead_41 ?_
      refine lv_icmp_ge (tgt := 49) hx hb dX7_isAhead_42 (by decide) (fun cz12 => ?_) (fun cz12 => ?_)
      · have hk := it_t cz12 hk
        refine lv_iconst (v := (0 : Int32)) hx hb dX7_isAhead_49 (by decide) ?_
        cases (show some _ = some _ from hk)
        exact we_z hx hb hr hlocks (show okz (0 : Int32) by unfold okz; decide).1 hP rfl hS dX7_isAhead_50 (by decide) (by decide)
      · have hk := it_f cz12 hk
        refine lv_iconst (v := (1 : Int32)) hx hb dX7_isAhead_45 (by decide) ?_
        refine lv_goto (tgt := 50) hx hb dX7_isAhead_46 (by decide) ?_
        cases (show some _ = some _ from hk)
        exact we_z hx hb hr hlocks (show okz (1 : Int32) by unfold okz; decide).1 hP rfl hS dX7_isAhead_50 (by decide) (by decide)
set_option maxHeartbeats 4000000 in
set_option maxRecDepth 100000 in
theorem k_X7_review (l : Launch) (hfl : l.stackTraces = false) (Z : ZT) (hZ : wD Z) (X M O : SS) (p0 : Int32) (Mz : SS) (r : Int32) (hf : f_X7_review M p0 = some (Mz, r)) (sz : Nat) : vx_Met l yX7_review ws_X7_review rm_X7_review (va_Pc [.ref (Z.2.2 26 0), .int p0] (cP Z (X, M, O) sz)) (cQi Z (X, Mz, O) (.inl r) sz) (cX Z (X, Mz, O) (.inl r : Int32 ⊕ String) sz) 0 0 (wA Z sz) := by
  refine vx_ofW (cc := cX7_review) (maxL := 5) (ret := (some .int)) (by decide) rfl ?_
  intro p e s m args below meth c s₁ B hml htab hv
  obtain ⟨hargs, hsz, hE, hP, hK⟩ := hv
  have hx := B.exec
  have hb := B.bytes
  have hr := B.returns
  have hts0 := atoms_spec (ws := ws_X7_review) B.pre
  have hts : ∀ w ∈ lw_all, w.before args s = true := fun w h => hts0 w (List.mem_cons_of_mem _ h)
  have hown : s.vm.findClass RX7 = some m.cls := findClass_of_methodNamed B.named
  have hlocks := B.notSynchronized
  have hout9 : ∀ (pc9 : Nat), ∀ x ∈ c.exceptionTable.toList, covers x pc9 = false := fun _ x hx9 => (htab x hx9).elim
  subst hsz
  have hS : va_S (wA Z s.heap.size) s.heap s.heap [] := va_S.rf
  have hl := lv_entry ([.ref (Z.2.2 26 0), .int p0]) (n := 5) (Nat.le_of_ble_eq_true rfl)
  have hen : entryFrame m args 5 = entryFrame m ([.ref (Z.2.2 26 0), .int p0] : List Value).toArray 5 := by rw [hargs]
  rw [hen, lg_entry_eq]
  generalize (lg_sl ([.ref (Z.2.2 26 0), .int p0]) ++ List.replicate (5 - (lg_sl ([.ref (Z.2.2 26 0), .int p0])).length) Slot.unset).toArray = ls at hl ⊢
  have hl : lv_has ls 5 [(0, .ref (Z.2.2 26 0)), (1, .int p0)] := hl
  have hk := hf
  unfold f_X7_review at hk
  refine lv_aload_n hx hb dX7_review_0 rfl (lv_at hl 0 rfl) ?_
  refine lv_iload_n hx hb dX7_review_1 rfl (lv_at hl 1 rfl) ?_
  obtain ⟨v1, hf2, hk⟩ := b0_s hk
  refine wc_iV0 (rest := []) (As := [.int p0]) ⟨hx, hb, hml, hown, hts⟩ (fun sz => k_X7_isMember l hfl Z hZ X M O p0 v1 hf2 sz) (cw_RX7_214 (args := args) (s := s) hts (Nat.le_of_ble_eq_true rfl) (Nat.le_of_ble_eq_true rfl)) hE hP hK hS (rv_26 hK hP (by decide)) rfl hl.1 rfl (Nat.le_of_ble_eq_true rfl) dX7_review_2 ⟨Nat.le_of_ble_eq_true rfl, Nat.le_of_ble_eq_true rfl⟩ (fun H locs hP hS => ?_)
  refine lv_if_ne (tgt := 14) hx hb dX7_review_5 (by decide) (fun cz3 => ?_) (fun cz3 => ?_)
  · have hk := it_f cz3 hk
    refine lv_iconst (v := ((-1) : Int32)) hx hb dX7_review_14 (by decide) ?_
    refine lv_istore_n (lv' := [(2, .int ((-1) : Int32)), (0, .ref (Z.2.2 26 0)), (1, .int p0)]) hx hb dX7_review_15 rfl hl (by decide) rfl (fun ls hl => ?_)
    refine lv_iconst (v := (0 : Int32)) hx hb dX7_review_16 (by decide) ?_
    refine lv_istore_n (lv' := [(3, .int (0 : Int32)), (2, .int ((-1) : Int32)), (0, .ref (Z.2.2 26 0)), (1, .int p0)]) hx hb dX7_review_17 rfl hl (by decide) rfl (fun ls hl => ?_)
    obtain ⟨k4, hk4, hk⟩ := gn hk
    have ex4 : ∀ (v5 : Int32) (H : Heap) (locs : List Loc) (ls : Array Slot), k4 v5 = some (Mz, r) → wP Z (X, M, O) H → va_S (wA Z s.heap.size) s.heap H locs → lv_has ls 5 [(2, .int v5), (0, .ref (Z.2.2 26 0))] → W p l e (headSpec ws_X7_review rm_X7_review).room s m args below meth c H locs 0 0 (vx_MQ below (cQi Z (X, Mz, O) (.inl r) s.heap.size) (cX Z (X, Mz, O) (.inl r : Int32 ⊕ String) s.heap.size) args s 0 0 (wA Z s.heap.size)) (F0 m 108 ls []) := by
      intro v5 H locs ls hk hP hS hl
      subst hk4
      refine lv_iload_n hx hb dX7_review_108 rfl (lv_at hl 0 rfl) ?_
      refine lv_iconst (v := ((-1) : Int32)) hx hb dX7_review_109 (by decide) ?_
      refine lv_icmp_ne (tgt := 121) hx hb dX7_review_110 (by decide) (fun cz8 => ?_) (fun cz8 => ?_)
      · have hk := it_f cz8 hk
        refine lv_aload_n hx hb dX7_review_121 rfl (lv_at hl 1 rfl) ?_
        refine lv_iload_n hx hb dX7_review_122 rfl (lv_at hl 0 rfl) ?_
        obtain ⟨M10, v9, hf11, hk⟩ := b1_s hk
        refine wc_iV0 (rest := []) (As := [.int v5]) ⟨hx, hb, hml, hown, hts⟩ (fun sz => k_X7_tells l hfl Z hZ X M O v5 M10 v9 hf11 sz) (cw_RX7_169 (args := args) (s := s) hts (Nat.le_of_ble_eq_true rfl) (Nat.le_of_ble_eq_true rfl)) hE hP hK hS (rv_26 hK hP (by decide)) rfl hl.1 rfl (Nat.le_of_ble_eq_true rfl) dX7_review_123 ⟨Nat.le_of_ble_eq_true rfl, Nat.le_of_ble_eq_true rfl⟩ (fun H locs hP hS => ?_)
        cases (show some _ = some _ from hk)
        exact we_i hx hb hr hlocks hP rfl hS dX7_review_126 (by decide) (by decide)
      · have hk := it_t cz8 hk
        refine lv_aload_n hx hb dX7_review_113 rfl (lv_at hl 1 rfl) ?_
        refine lv_iconst (v := (2 : Int32)) hx hb dX7_review_114 (by decide) ?_
        obtain ⟨M13, v12, hf14, hk⟩ := b1_s hk
        refine wc_iV0 (rest := []) (As := [.int (2 : Int32)]) ⟨hx, hb, hml, hown, hts⟩ (fun sz => k_X7_fails l hfl Z hZ X M O (2 : Int32) M13 v12 hf14 sz) (cw_RX7_165 (args := args) (s := s) hts (Nat.le_of_ble_eq_true rfl) (Nat.le_of_ble_eq_true rfl)) hE hP hK hS (rv_26 hK hP (by decide)) rfl hl.1 rfl (Nat.le_of_ble_eq_true rfl) dX7_review_115 ⟨Nat.le_of_ble_eq_true rfl, Nat.le_of_ble_eq_true rfl⟩ (fun H locs hP hS => ?_)
        refine lv_goto (tgt := 126) hx hb dX7_review_118 (by decide) ?_
        cases (show some _ = some _ from hk)
        exact we_i hx hb hr hlocks hP rfl hS dX7_review_126 (by decide) (by decide)
    have lp4 : ∀ (n : Nat) (v6 : Int32) (v7 : Int32) (H : Heap) (locs : List Loc) (ls : Array Slot), f_X7_review_L18 M p0 n v6 v7 k4 = some (Mz, r) → wP Z (X, M, O) H → va_S (wA Z s.heap.size) s.heap H locs → lv_has ls 5 [(3, .int v6), (2, .int v7), (0, .ref (Z.2.2 26 0)), (1, .int p0)] → W p l e (headSpec ws_X7_review rm_X7_review).room s m args below meth c H locs 0 0 (vx_MQ below (cQi Z (X, Mz, O) (.inl r) s.heap.size) (cX Z (X, Mz, O) (.inl r : Int32 ⊕ String) s.heap.size) args s 0 0 (wA Z s.heap.size)) (F0 m 18 ls []) := by
      intro n
      induction n with
      | zero =>
        intro v6 v7 H locs ls hk
        rw [f_X7_review_L18] at hk
        exact nomatch (show none = some _ from hk)
      | succ n ih =>
        intro v6 v7 H locs ls hk hP hS hl
        rw [f_X7_review_L18] at hk
        refine lv_iload_n hx hb dX7_review_18 rfl (lv_at hl 0 rfl) ?_
        refine lv_aload_n hx hb dX7_review_19 rfl (lv_at hl 2 rfl) ?_
        refine gf_RX7_25 hx hb hts hown hK hP (by decide) dX7_review_20 ?_
        refine lv_icmp_ge (tgt := 108) hx hb dX7_review_23 (by decide) (fun cz15 => ?_) (fun cz15 => ?_)
        · have hk := it_t cz15 hk
          exact ex4 v7 _ _ _ hk hP hS (lv_sub hl [1, 2] rfl)
        · have hk := it_f cz15 hk
          refine lv_aload_n hx hb dX7_review_26 rfl (lv_at hl 2 rfl) ?_
          refine gf_RX7_91 hx hb hts hown hK hP (by decide) dX7_review_27 ?_
          refine lv_iload_n hx hb dX7_review_30 rfl (lv_at hl 0 rfl) ?_
          obtain ⟨hg16, hk⟩ := gd_s hk
          refine wa_baload_43 hx hb hK hP (by decide) hg16 dX7_review_31 ?_
          have jn18 : ∀ (v17 : Int32) (H : Heap) (locs : List Loc) (ls : Array Slot), f_X7_review_J75 (f_X7_review_L18 M p0 n) k4 v6 v7 M v17 = some (Mz, r) → wP Z (X, M, O) H → va_S (wA Z s.heap.size) s.heap H locs → lv_has ls 5 [(3, .int v6), (2, .int v7), (0, .ref (Z.2.2 26 0)), (1, .int p0)] → W p l e (headSpec ws_X7_review rm_X7_review).room s m args below meth c H locs 0 0 (vx_MQ below (cQi Z (X, Mz, O) (.inl r) s.heap.size) (cX Z (X, Mz, O) (.inl r : Int32 ⊕ String) s.heap.size) args s 0 0 (wA Z s.heap.size)) (F0 m 75 ls [.int v17]) := by
            intro v17 H locs ls hk hP hS hl
            unfold f_X7_review_J75 at hk
            refine lv_istore (lv' := [(4, .int v17), (3, .int v6), (2, .int v7), (0, .ref (Z.2.2 26 0)), (1, .int p0)]) hx hb dX7_review_75 hl (by decide) rfl (fun ls hl => ?_)
            refine lv_iload hx hb dX7_review_77 (lv_at hl 0 rfl) ?_
            refine lv_if_eq (tgt := 100) hx hb dX7_review_79 (by decide) (fun cz19 => ?_) (fun cz19 => ?_)
            · have hk := it_t cz19 hk
              refine lv_iload_n hx hb dX7_review_100 rfl (lv_at hl 2 rfl) ?_
              refine lv_istore_n (lv' := [(2, .int v7), (4, .int v17), (3, .int v6), (0, .ref (Z.2.2 26 0)), (1, .int p0)]) hx hb dX7_review_101 rfl hl (by decide) rfl (fun ls hl => ?_)
              refine lv_iinc (v := (v6 + (1 : Int32))) (lv' := [(3, .int (v6 + (1 : Int32))), (2, .int v7), (4, .int v17), (0, .ref (Z.2.2 26 0)), (1, .int p0)]) hx hb dX7_review_102 hl (k := 2) rfl rfl (by decide) rfl (fun ls hl => ?_)
              refine lv_goto (tgt := 18) hx hb dX7_review_105 (by decide) ?_
              exact ih (v6 + (1 : Int32)) v7 _ _ _ hk hP hS (lv_sub hl [0, 1, 3, 4] rfl)
            · have hk := it_f cz19 hk
              refine lv_iload_n hx hb dX7_review_82 rfl (lv_at hl 2 rfl) ?_
              refine lv_iconst (v := ((-1) : Int32)) hx hb dX7_review_83 (by decide) ?_
              refine lv_icmp_eq (tgt := 96) hx hb dX7_review_84 (by decide) (fun cz20 => ?_) (fun cz20 => ?_)
              · have hk := it_t cz20 hk
                refine lv_iload_n hx hb dX7_review_96 rfl (lv_at hl 1 rfl) ?_
                refine lv_goto (tgt := 101) hx hb dX7_review_97 (by decide) ?_
                refine lv_istore_n (lv' := [(2, .int v6), (4, .int v17), (3, .int v6), (0, .ref (Z.2.2 26 0)), (1, .int p0)]) hx hb dX7_review_101 rfl hl (by decide) rfl (fun ls hl => ?_)
                refine lv_iinc (v := (v6 + (1 : Int32))) (lv' := [(3, .int (v6 + (1 : Int32))), (2, .int v6), (4, .int v17), (0, .ref (Z.2.2 26 0)), (1, .int p0)]) hx hb dX7_review_102 hl (k := 2) rfl rfl (by decide) rfl (fun ls hl => ?_)
                refine lv_goto (tgt := 18) hx hb dX7_review_105 (by decide) ?_
                exact ih (v6 + (1 : Int32)) v6 _ _ _ hk hP hS (lv_sub hl [0, 1, 3, 4] rfl)
              · have hk := it_f cz20 hk
                refine lv_aload_n hx hb dX7_review_87 rfl (lv_at hl 3 rfl) ?_
                refine lv_iload_n hx hb dX7_review_88 rfl (lv_at hl 1 rfl) ?_
                refine lv_iload_n hx hb dX7_review_89 rfl (lv_at hl 2 rfl) ?_
                obtain ⟨v21, hf22, hk⟩ := b0_s hk
                refine wc_iV0 (rest := []) (As := [.int v6, .int v7]) ⟨hx, hb, hml, hown, hts⟩ (fun sz => k_X7_isAhead l hfl Z hZ X M O v6 v7 v21 hf22 sz) (cw_RX7_262 (args := args) (s := s) hts (Nat.le_of_ble_eq_true rfl) (Nat.le_of_ble_eq_true rfl)) hE hP hK hS (rv_26 hK hP (by decide)) rfl hl.1 rfl (Nat.le_of_ble_eq_true rfl) dX7_review_90 ⟨Nat.le_of_ble_eq_true rfl, Nat.le_of_ble_eq_true rfl⟩ (fun H locs hP hS => ?_)
                refine lv_if_eq (tgt := 100) hx hb dX7_review_93 (by decide) (fun cz23 => ?_) (fun cz23 => ?_)
                · have hk := it_t cz23 hk
                  refine lv_iload_n hx hb dX7_review_100 rfl (lv_at hl 2 rfl) ?_
                  refine lv_istore_n (lv' := [(2, .int v7), (4, .int v17), (3, .int v6), (0, .ref (Z.2.2 26 0)), (1, .int p0)]) hx hb dX7_review_101 rfl hl (by decide) rfl (fun ls hl => ?_)
                  refine lv_iinc (v := (v6 + (1 : Int32))) (lv' := [(3, .int (v6 + (1 : Int32))), (2, .int v7), (4, .int v17), (0, .ref (Z.2.2 26 0)), (1, .int p0)]) hx hb dX7_review_102 hl (k := 2) rfl rfl (by decide) rfl (fun ls hl => ?_)
                  refine lv_goto (tgt := 18) hx hb dX7_review_105 (by decide) ?_
                  exact ih (v6 + (1 : Int32)) v7 _ _ _ hk hP hS (lv_sub hl [0, 1, 3, 4] rfl)
                · have hk := it_f cz23 hk
                  refine lv_iload_n hx hb dX7_review_96 rfl (lv_at hl 1 rfl) ?_
                  refine lv_goto (tgt := 101) hx hb dX7_review_97 (by decide) ?_
                  refine lv_istore_n (lv' := [(2, .int v6), (4, .int v17), (3, .int v6), (0, .ref (Z.2.2 26 0)), (1, .int p0)]) hx hb dX7_review_101 rfl hl (by decide) rfl (fun ls hl => ?_)
                  refine lv_iinc (v := (v6 + (1 : Int32))) (lv' := [(3, .int (v6 + (1 : Int32))), (2, .int v6), (4, .int v17), (0, .ref (Z.2.2 26 0)), (1, .int p0)]) hx hb dX7_review_102 hl (k := 2) rfl rfl (by decide) rfl (fun ls hl => ?_)
                  refine lv_goto (tgt := 18) hx hb dX7_review_105 (by decide) ?_
                  exact ih (v6 + (1 : Int32)) v6 _ _ _ hk hP hS (lv_sub hl [0, 1, 3, 4] rfl)
          have jn24 : ∀ (H : Heap) (locs : List Loc) (ls : Array Slot), f_X7_review_J74 (f_X7_review_L18 M p0 n) k4 v6 v7 M  = some (Mz, r) → wP Z (X, M, O) H → va_S (wA Z s.heap.size) s.heap H locs → lv_has ls 5 [(3, .int v6), (2, .int v7), (0, .ref (Z.2.2 26 0)), (1, .int p0)] → W p l e (headSpec ws_X7_review rm_X7_review).room s m args below meth c H locs 0 0 (vx_MQ below (cQi Z (X, Mz, O) (.inl r) s.heap.size) (cX Z (X, Mz, O) (.inl r : Int32 ⊕ String) s.heap.size) args s 0 0 (wA Z s.heap.size)) (F0 m 74 ls []) := by
            intro  H locs ls hk hP hS hl
            unfold f_X7_review_J74 at hk
            refine lv_iconst (v := (0 : Int32)) hx hb dX7_review_74 (by decide) ?_
            exact jn18 (0 : Int32) _ _ _ hk hP hS (lv_sub hl [0, 1, 2, 3] rfl)
          refine lv_if_eq (tgt := 74) hx hb dX7_review_32 (by decide) (fun cz25 => ?_) (fun cz25 => ?_)
          · have hk := it_t cz25 hk
            exact jn24 _ _ _ hk hP hS (lv_sub hl [0, 1, 2, 3] rfl)
          · have hk := it_f cz25 hk
            refine lv_aload_n hx hb dX7_review_35 rfl (lv_at hl 2 rfl) ?_
            refine gf_RX7_88 hx hb hts hown hK hP (by decide) dX7_review_36 ?_
            refine lv_iload_n hx hb dX7_review_39 rfl (lv_at hl 0 rfl) ?_
            obtain ⟨hg26, hk⟩ := gd_s hk
            refine wa_caload_42 hx hb hK hP (by decide) hg26 dX7_review_40 ?_
            refine lv_bipush (v := (115 : Int32)) hx hb dX7_review_41 (by decide) ?_
            refine lv_icmp_ne (tgt := 74) hx hb dX7_review_43 (by decide) (fun cz27 => ?_) (fun cz27 => ?_)
            · have hk := it_f cz27 hk
              exact jn24 _ _ _ hk hP hS (lv_sub hl [0, 1, 2, 3] rfl)
            · have hk := it_t cz27 hk
              refine lv_aload_n hx hb dX7_review_46 rfl (lv_at hl 2 rfl) ?_
              refine gf_RX7_78 hx hb hts hown hK hP (by decide) dX7_review_47 ?_
              refine lv_iload_n hx hb dX7_review_50 rfl (lv_at hl 0 rfl) ?_
              obtain ⟨hg28, hk⟩ := gd_s hk
              refine wa_iaload_39 hx hb hK hP (by decide) hg28 dX7_review_51 ?_
              refine lv_iload_n hx hb dX7_review_52 rfl (lv_at hl 3 rfl) ?_
              refine lv_icmp_eq (tgt := 74) hx hb dX7_review_53 (by decide) (fun cz29 => ?_) (fun cz29 => ?_)
              · have hk := it_t cz29 hk
                exact jn24 _ _ _ hk hP hS (lv_sub hl [0, 1, 2, 3] rfl)
              · have hk := it_f cz29 hk
                refine lv_aload_n hx hb dX7_review_56 rfl (lv_at hl 2 rfl) ?_
                refine gf_RX7_101 hx hb hts hown hK hP (by decide) dX7_review_57 ?_
                refine lv_bipush (v := (10 : Int32)) hx hb dX7_review_60 (by decide) ?_
                refine lv_iload_n hx hb dX7_review_62 rfl (lv_at hl 0 rfl) ?_
                refine lv_imul hx hb dX7_review_63 ?_
                refine lv_iload_n hx hb dX7_review_64 rfl (lv_at hl 3 rfl) ?_
                refine lv_iadd hx hb dX7_review_65 ?_
                obtain ⟨hg30, hk⟩ := gd_s hk
                refine wa_iaload_46 hx hb hK hP (by decide) hg30 dX7_review_66 ?_
                refine lv_if_ne (tgt := 74) hx hb dX7_review_67 (by decide) (fun cz31 => ?_) (fun cz31 => ?_)
                · have hk := it_f cz31 hk
                  exact jn24 _ _ _ hk hP hS (lv_sub hl [0, 1, 2, 3] rfl)
                · have hk := it_t cz31 hk
                  refine lv_iconst (v := (1 : Int32)) hx hb dX7_review_70 (by decide) ?_
                  refine lv_goto (tgt := 75) hx hb dX7_review_71 (by decide) ?_
                  exact jn18 (1 : Int32) _ _ _ hk hP hS (lv_sub hl [0, 1, 2, 3] rfl)
    exact lp4 1000 (0 : Int32) ((-1) : Int32) _ _ _ hk hP hS (lv_sub hl [0, 1, 2, 3] rfl)
  · have hk := it_t cz3 hk
    refine lv_aload_n hx hb dX7_review_8 rfl (lv_at hl 0 rfl) ?_
    refine lv_iconst (v := (1 : Int32)) hx hb dX7_review_9 (by decide) ?_
    obtain ⟨M33, v32, hf34, hk⟩ := b1_s hk
    refine wc_iV0 (rest := []) (As := [.int (1 : Int32)]) ⟨hx, hb, hml, hown, hts⟩ (fun sz => k_X7_fails l hfl Z hZ X M O (1 : Int32) M33 v32 hf34 sz) (cw_RX7_165 (args := args) (s := s) hts (Nat.le_of_ble_eq_true rfl) (Nat.le_of_ble_eq_true rfl)) hE hP hK hS (rv_26 hK hP (by decide)) rfl hl.1 rfl (Nat.le_of_ble_eq_true rfl) dX7_review_10 ⟨Nat.le_of_ble_eq_true rfl, Nat.le_of_ble_eq_true rfl⟩ (fun H locs hP hS => ?_)
    cases (show some _ = some _ from hk)
    exact we_i hx hb hr hlocks hP rfl hS dX7_review_13 (by decide) (by decide)
set_option maxHeartbeats 4000000 in
set_option maxRecDepth 100000 in
theorem k_X7_best (l : Launch) (hfl : l.stackTraces = false) (Z : ZT) (hZ : wD Z) (X M O : SS) (p0 : Int32) (p1 : Int32) (Mz : SS) (r : Int32) (hf : f_X7_best M p0 p1 = some (Mz, r)) (sz : Nat) : vx_Met l yX7_best ws_X7_best rm_X7_best (va_Pc [.ref (Z.2.2 26 0), .int p0, .int p1] (cP Z (X, M, O) sz)) (cQi Z (X, Mz, O) (.inl r) sz) (cX Z (X, Mz, O) (.inl r : Int32 ⊕ String) sz) 0 0 (wA Z sz) := by
  refine vx_ofW (cc := cX7_best) (maxL := 4) (ret := (some .int)) (by decide) rfl ?_
  intro p e s m args below meth c s₁ B hml htab hv
  obtain ⟨hargs, hsz, hE, hP, hK⟩ := hv
  have hx := B.exec
  have hb := B.bytes
  have hr := B.returns
  have hts0 := atoms_spec (ws := ws_X7_best) B.pre
  have hts : ∀ w ∈ lw_all, w.before args s = true := fun w h => hts0 w (List.mem_cons_of_mem _ h)
  have hown : s.vm.findClass RX7 = some m.cls := findClass_of_methodNamed B.named
  have hlocks := B.notSynchronized
  have hout9 : ∀ (pc9 : Nat), ∀ x ∈ c.exceptionTable.toList, covers x pc9 = false := fun _ x hx9 => (htab x hx9).elim
  subst hsz
  have hS : va_S (wA Z s.heap.size) s.heap s.heap [] := va_S.rf
  have hl := lv_entry ([.ref (Z.2.2 26 0), .int p0, .int p1]) (n := 4) (Nat.le_of_ble_eq_true rfl)
  have hen : entryFrame m args 4 = entryFrame m ([.ref (Z.2.2 26 0), .int p0, .int p1] : List Value).toArray 4 := by rw [hargs]
  rw [hen, lg_entry_eq]
  generalize (lg_sl ([.ref (Z.2.2 26 0), .int p0, .int p1]) ++ List.replicate (4 - (lg_sl ([.ref (Z.2.2 26 0), .int p0, .int p1])).length) Slot.unset).toArray = ls at hl ⊢
  have hl : lv_has ls 4 [(0, .ref (Z.2.2 26 0)), (1, .int p0), (2, .int p1)] := hl
  have hk := hf
  unfold f_X7_best at hk
  refine lv_aload_n hx hb dX7_best_0 rfl (lv_at hl 0 rfl) ?_
  refine lv_iload_n hx hb dX7_best_1 rfl (lv_at hl 1 rfl) ?_
  obtain ⟨v1, hf2, hk⟩ := b0_s hk
  refine wc_iV0 (rest := []) (As := [.int p0]) ⟨hx, hb, hml, hown, hts⟩ (fun sz => k_X7_isMember l hfl Z hZ X M O p0 v1 hf2 sz) (cw_RX7_214 (args := args) (s := s) hts (Nat.le_of_ble_eq_true rfl) (Nat.le_of_ble_eq_true rfl)) hE hP hK hS (rv_26 hK hP (by decide)) rfl hl.1 rfl (Nat.le_of_ble_eq_true rfl) dX7_best_2 ⟨Nat.le_of_ble_eq_true rfl, Nat.le_of_ble_eq_true rfl⟩ (fun H locs hP hS => ?_)
  refine lv_if_eq (tgt := 16) hx hb dX7_best_5 (by decide) (fun cz3 => ?_) (fun cz3 => ?_)
  · have hk := it_t cz3 hk
    refine lv_aload_n hx hb dX7_best_16 rfl (lv_at hl 0 rfl) ?_
    refine lv_iconst (v := (1 : Int32)) hx hb dX7_best_17 (by decide) ?_
    obtain ⟨M5, v4, hf6, hk⟩ := b1_s hk
    refine wc_iV0 (rest := []) (As := [.int (1 : Int32)]) ⟨hx, hb, hml, hown, hts⟩ (fun sz => k_X7_fails l hfl Z hZ X M O (1 : Int32) M5 v4 hf6 sz) (cw_RX7_165 (args := args) (s := s) hts (Nat.le_of_ble_eq_true rfl) (Nat.le_of_ble_eq_true rfl)) hE hP hK hS (rv_26 hK hP (by decide)) rfl hl.1 rfl (Nat.le_of_ble_eq_true rfl) dX7_best_18 ⟨Nat.le_of_ble_eq_true rfl, Nat.le_of_ble_eq_true rfl⟩ (fun H locs hP hS => ?_)
    cases (show some _ = some _ from hk)
    exact we_i hx hb hr hlocks hP rfl hS dX7_best_21 (by decide) (by decide)
  · have hk := it_f cz3 hk
    refine lv_aload_n hx hb dX7_best_8 rfl (lv_at hl 0 rfl) ?_
    refine lv_iload_n hx hb dX7_best_9 rfl (lv_at hl 2 rfl) ?_
    obtain ⟨v7, hf8, hk⟩ := b0_s hk
    refine wc_iV0 (rest := []) (As := [.int p1]) ⟨hx, hb, hml, hown, hts⟩ (fun sz => k_X7_isKata l hfl Z hZ X M O p1 v7 hf8 sz) (cw_RX7_192 (args := args) (s := s) hts (Nat.le_of_ble_eq_true rfl) (Nat.le_of_ble_eq_true rfl)) hE hP hK hS (rv_26 hK hP (by decide)) rfl hl.1 rfl (Nat.le_of_ble_eq_true rfl) dX7_best_10 ⟨Nat.le_of_ble_eq_true rfl, Nat.le_of_ble_eq_true rfl⟩ (fun H locs hP hS => ?_)
    refine lv_if_ne (tgt := 22) hx hb dX7_best_13 (by decide) (fun cz9 => ?_) (fun cz9 => ?_)
    · have hk := it_f cz9 hk
      refine lv_aload_n hx hb dX7_best_22 rfl (lv_at hl 0 rfl) ?_
      refine lv_iload_n hx hb dX7_best_23 rfl (lv_at hl 1 rfl) ?_
      refine lv_iload_n hx hb dX7_best_24 rfl (lv_at hl 2 rfl) ?_
      obtain ⟨v10, hf11, hk⟩ := b0_s hk
      refine wc_iV0 (rest := []) (As := [.int p0, .int p1]) ⟨hx, hb, hml, hown, hts⟩ (fun sz => k_X7_bestOf l hfl Z hZ X M O p0 p1 v10 hf11 sz) (cw_RX7_271 (args := args) (s := s) hts (Nat.le_of_ble_eq_true rfl) (Nat.le_of_ble_eq_true rfl)) hE hP hK hS (rv_26 hK hP (by decide)) rfl hl.1 rfl (Nat.le_of_ble_eq_true rfl) dX7_best_25 ⟨Nat.le_of_ble_eq_true rfl, Nat.le_of_ble_eq_true rfl⟩ (fun H locs hP hS => ?_)
      refine lv_istore_n (lv' := [(3, .int v10), (0, .ref (Z.2.2 26 0)), (1, .int p0), (2, .int p1)]) hx hb dX7_best_28 rfl hl (by decide) rfl (fun ls hl => ?_)
      refine lv_iload_n hx hb dX7_best_29 rfl (lv_at hl 0 rfl) ?_
      refine lv_iconst (v := ((-1) : Int32)) hx hb dX7_best_30 (by decide) ?_
      refine lv_icmp_ne (tgt := 42) hx hb dX7_best_31 (by decide) (fun cz12 => ?_) (fun cz12 => ?_)
      · have hk := it_f cz12 hk
        refine lv_aload_n hx hb dX7_best_42 rfl (lv_at hl 1 rfl) ?_
        refine lv_iload_n hx hb dX7_best_43 rfl (lv_at hl 0 rfl) ?_
        obtain ⟨M14, v13, hf15, hk⟩ := b1_s hk
        refine wc_iV0 (rest := []) (As := [.int v10]) ⟨hx, hb, hml, hown, hts⟩ (fun sz => k_X7_tells l hfl Z hZ X M O v10 M14 v13 hf15 sz) (cw_RX7_169 (args := args) (s := s) hts (Nat.le_of_ble_eq_true rfl) (Nat.le_of_ble_eq_true rfl)) hE hP hK hS (rv_26 hK hP (by decide)) rfl hl.1 rfl (Nat.le_of_ble_eq_true rfl) dX7_best_44 ⟨Nat.le_of_ble_eq_true rfl, Nat.le_of_ble_eq_true rfl⟩ (fun H locs hP hS => ?_)
        cases (show some _ = some _ from hk)
        exact we_i hx hb hr hlocks hP rfl hS dX7_best_47 (by decide) (by decide)
      · have hk := it_t cz12 hk
        refine lv_aload_n hx hb dX7_best_34 rfl (lv_at hl 1 rfl) ?_
        refine lv_iconst (v := (2 : Int32)) hx hb dX7_best_35 (by decide) ?_
        obtain ⟨M17, v16, hf18, hk⟩ := b1_s hk
        refine wc_iV0 (rest := []) (As := [.int (2 : Int32)]) ⟨hx, hb, hml, hown, hts⟩ (fun sz => k_X7_fails l hfl Z hZ X M O (2 : Int32) M17 v16 hf18 sz) (cw_RX7_165 (args := args) (s := s) hts (Nat.le_of_ble_eq_true rfl) (Nat.le_of_ble_eq_true rfl)) hE hP hK hS (rv_26 hK hP (by decide)) rfl hl.1 rfl (Nat.le_of_ble_eq_true rfl) dX7_best_36 ⟨Nat.le_of_ble_eq_true rfl, Nat.le_of_ble_eq_true rfl⟩ (fun H locs hP hS => ?_)
        refine lv_goto (tgt := 47) hx hb dX7_best_39 (by decide) ?_
        cases (show some _ = some _ from hk)
        exact we_i hx hb hr hlocks hP rfl hS dX7_best_47 (by decide) (by decide)
    · have hk := it_t cz9 hk
      refine lv_aload_n hx hb dX7_best_16 rfl (lv_at hl 0 rfl) ?_
      refine lv_iconst (v := (1 : Int32)) hx hb dX7_best_17 (by decide) ?_
      obtain ⟨M20, v19, hf21, hk⟩ := b1_s hk
      refine wc_iV0 (rest := []) (As := [.int (1 : Int32)]) ⟨hx, hb, hml, hown, hts⟩ (fun sz => k_X7_fails l hfl Z hZ X M O (1 : Int32) M20 v19 hf21 sz) (cw_RX7_165 (args := args) (s := s) hts (Nat.le_of_ble_eq_true rfl) (Nat.le_of_ble_eq_true rfl)) hE hP hK hS (rv_26 hK hP (by decide)) rfl hl.1 rfl (Nat.le_of_ble_eq_true rfl) dX7_best_18 ⟨Nat.le_of_ble_eq_true rfl, Nat.le_of_ble_eq_true rfl⟩ (fun H locs hP hS => ?_)
      cases (show some _ = some _ from hk)
      exact we_i hx hb hr hlocks hP rfl hS dX7_best_21 (by decide) (by decide)
set_option maxHeartbeats 4000000 in
set_option maxRecDepth 100000 in
theorem k_X7_points (l : Launch) (hfl : l.stackTraces = false) (Z : ZT) (hZ : wD Z) (X M O : SS) (p0 : Int32) (Mz : SS) (r : UInt32) (hf : f_X7_points M p0 = some (Mz, r)) (sz : Nat) : vx_Met l yX7_points ws_X7_points rm_X7_points (va_Pc [.ref (Z.2.2 26 0), .int p0] (cP Z (X, M, O) sz)) (cQf Z (X, Mz, O) (.inl r) sz) (cX Z (X, Mz, O) (.inl r : UInt32 ⊕ String) sz) 0 0 (wA Z sz) := by
  refine vx_ofW (cc := cX7_points) (maxL := 2) (ret := (some .float)) (by decide) rfl ?_
  intro p e s m args below meth c s₁ B hml htab hv
  obtain ⟨hargs, hsz, hE, hP, hK⟩ := hv
  have hx := B.exec
  have hb := B.bytes
  have hr := B.returns
  have hts0 := atoms_spec (ws := ws_X7_points) B.pre
  have hts : ∀ w ∈ lw_all, w.before args s = true := fun w h => hts0 w (List.mem_cons_of_mem _ h)
  have hown : s.vm.findClass RX7 = some m.cls := findClass_of_methodNamed B.named
  have hlocks := B.notSynchronized
  have hout9 : ∀ (pc9 : Nat), ∀ x ∈ c.exceptionTable.toList, covers x pc9 = false := fun _ x hx9 => (htab x hx9).elim
  subst hsz
  have hS : va_S (wA Z s.heap.size) s.heap s.heap [] := va_S.rf
  have hl := lv_entry ([.ref (Z.2.2 26 0), .int p0]) (n := 2) (Nat.le_of_ble_eq_true rfl)
  have hen : entryFrame m args 2 = entryFrame m ([.ref (Z.2.2 26 0), .int p0] : List Value).toArray 2 := by rw [hargs]
  rw [hen, lg_entry_eq]
  generalize (lg_sl ([.ref (Z.2.2 26 0), .int p0]) ++ List.replicate (2 - (lg_sl ([.ref (Z.2.2 26 0), .int p0])).length) Slot.unset).toArray = ls at hl ⊢
  have hl : lv_has ls 2 [(0, .ref (Z.2.2 26 0)), (1, .int p0)] := hl
  have hk := hf
  unfold f_X7_points at hk
  refine lv_aload_n hx hb dX7_points_0 rfl (lv_at hl 0 rfl) ?_
  refine lv_aload_n hx hb dX7_points_1 rfl (lv_at hl 0 rfl) ?_
  refine lv_iload_n hx hb dX7_points_2 rfl (lv_at hl 1 rfl) ?_
  obtain ⟨v1, hf2, hk⟩ := b0_s hk
  refine wc_iV0 (rest := [.ref (Z.2.2 26 0)]) (As := [.int p0]) ⟨hx, hb, hml, hown, hts⟩ (fun sz => k_X7_isMember l hfl Z hZ X M O p0 v1 hf2 sz) (cw_RX7_214 (args := args) (s := s) hts (Nat.le_of_ble_eq_true rfl) (Nat.le_of_ble_eq_true rfl)) hE hP hK hS (rv_26 hK hP (by decide)) rfl hl.1 rfl (Nat.le_of_ble_eq_true rfl) dX7_points_3 ⟨Nat.le_of_ble_eq_true rfl, Nat.le_of_ble_eq_true rfl⟩ (fun H locs hP hS => ?_)
  have jn4 : ∀ (v3 : Int32) (H : Heap) (locs : List Loc) (ls : Array Slot), f_X7_points_J14 M p0 v3 = some (Mz, r) → wP Z (X, M, O) H → va_S (wA Z s.heap.size) s.heap H locs → lv_has ls 2 [(0, .ref (Z.2.2 26 0)), (1, .int p0)] → W p l e (headSpec ws_X7_points rm_X7_points).room s m args below meth c H locs 0 0 (vx_MQ below (cQf Z (X, Mz, O) (.inl r) s.heap.size) (cX Z (X, Mz, O) (.inl r : UInt32 ⊕ String) s.heap.size) args s 0 0 (wA Z s.heap.size)) (F0 m 14 ls [.int v3, .ref (Z.2.2 26 0)]) := by
    intro v3 H locs ls hk hP hS hl
    unfold f_X7_points_J14 at hk
    obtain ⟨M5, eM5, hk⟩ := lq_s hk
    refine pf_RX7_37 hx hb hts hown hZ hK hP hS (by decide) dX7_points_14 (fun H locs hP hS => ?_)
    rw [← eM5] at hP
    refine lv_aload_n hx hb dX7_points_17 rfl (lv_at hl 0 rfl) ?_
    refine gf_RX7_37 hx hb hts hown hK hP (by decide) dX7_points_18 ?_
    refine lv_if_le (tgt := 28) hx hb dX7_points_21 (by decide) (fun cz6 => ?_) (fun cz6 => ?_)
    · have hk := it_t cz6 hk
      refine lv_aload_n hx hb dX7_points_28 rfl (lv_at hl 0 rfl) ?_
      refine lv_iload_n hx hb dX7_points_29 rfl (lv_at hl 1 rfl) ?_
      obtain ⟨v7, hf8, hk⟩ := b0_s hk
      refine wc_fV0 (rest := []) (As := [.int p0]) ⟨hx, hb, hml, hown, hts⟩ (fun sz => k_X7_pointsOf l hfl Z hZ X M5 O p0 v7 hf8 sz) (cw_RX7_274 (args := args) (s := s) hts (Nat.le_of_ble_eq_true rfl) (Nat.le_of_ble_eq_true rfl)) hE hP hK hS (rv_26 hK hP (by decide)) rfl hl.1 rfl (Nat.le_of_ble_eq_true rfl) dX7_points_30 ⟨Nat.le_of_ble_eq_true rfl, Nat.le_of_ble_eq_true rfl⟩ (fun H locs hP hS => ?_)
      cases (show some _ = some _ from hk)
      exact we_f hx hb hr hlocks hP rfl hS dX7_points_33 (by decide) (by decide)
    · have hk := it_f cz6 hk
      refine lv_fconst0 hx hb dX7_points_24 ?_
      refine lv_goto (tgt := 33) hx hb dX7_points_25 (by decide) ?_
      cases (show some _ = some _ from hk)
      exact we_f hx hb hr hlocks hP rfl hS dX7_points_33 (by decide) (by decide)
  refine lv_if_eq (tgt := 13) hx hb dX7_points_6 (by decide) (fun cz9 => ?_) (fun cz9 => ?_)
  · have hk := it_t cz9 hk
    refine lv_iconst (v := (1 : Int32)) hx hb dX7_points_13 (by decide) ?_
    exact jn4 (1 : Int32) _ _ _ hk hP hS (lv_sub hl [0, 1] rfl)
  · have hk := it_f cz9 hk
    refine lv_iconst (v := (0 : Int32)) hx hb dX7_points_9 (by decide) ?_
    refine lv_goto (tgt := 14) hx hb dX7_points_10 (by decide) ?_
    exact jn4 (0 : Int32) _ _ _ hk hP hS (lv_sub hl [0, 1] rfl)
set_option maxHeartbeats 4000000 in
set_option maxRecDepth 100000 in
theorem k_X7_belt (l : Launch) (hfl : l.stackTraces = false) (Z : ZT) (hZ : wD Z) (X M O : SS) (p0 : Int32) (Mz : SS) (r : Int32) (hf : f_X7_belt M p0 = some (Mz, r)) (sz : Nat) : vx_Met l yX7_belt ws_X7_belt rm_X7_belt (va_Pc [.ref (Z.2.2 26 0), .int p0] (cP Z (X, M, O) sz)) (cQi Z (X, Mz, O) (.inl r) sz) (cX Z (X, Mz, O) (.inl r : Int32 ⊕ String) sz) 0 0 (wA Z sz) := by
  refine vx_ofW (cc := cX7_belt) (maxL := 2) (ret := (some .int)) (by decide) rfl ?_
  intro p e s m args below meth c s₁ B hml htab hv
  obtain ⟨hargs, hsz, hE, hP, hK⟩ := hv
  have hx := B.exec
  have hb := B.bytes
  have hr := B.returns
  have hts0 := atoms_spec (ws := ws_X7_belt) B.pre
  have hts : ∀ w ∈ lw_all, w.before args s = true := fun w h => hts0 w (List.mem_cons_of_mem _ h)
  have hown : s.vm.findClass RX7 = some m.cls := findClass_of_methodNamed B.named
  have hlocks := B.notSynchronized
  have hout9 : ∀ (pc9 : Nat), ∀ x ∈ c.exceptionTable.toList, covers x pc9 = false := fun _ x hx9 => (htab x hx9).elim
  subst hsz
  have hS : va_S (wA Z s.heap.size) s.heap s.heap [] := va_S.rf
  have hl := lv_entry ([.ref (Z.2.2 26 0), .int p0]) (n := 2) (Nat.le_of_ble_eq_true rfl)
  have hen : entryFrame m args 2 = entryFrame m ([.ref (Z.2.2 26 0), .int p0] : List Value).toArray 2 := by rw [hargs]
  rw [hen, lg_entry_eq]
  generalize (lg_sl ([.ref (Z.2.2 26 0), .int p0]) ++ List.replicate (2 - (lg_sl ([.ref (Z.2.2 26 0), .int p0])).length) Slot.unset).toArray = ls at hl ⊢
  have hl : lv_has ls 2 [(0, .ref (Z.2.2 26 0)), (1, .int p0)] := hl
  have hk := hf
  unfold f_X7_belt at hk
  refine lv_aload_n hx hb dX7_belt_0 rfl (lv_at hl 0 rfl) ?_
  refine lv_iload_n hx hb dX7_belt_1 rfl (lv_at hl 1 rfl) ?_
  obtain ⟨v1, hf2, hk⟩ := b0_s hk
  refine wc_iV0 (rest := []) (As := [.int p0]) ⟨hx, hb, hml, hown, hts⟩ (fun sz => k_X7_isMember l hfl Z hZ X M O p0 v1 hf2 sz) (cw_RX7_214 (args := args) (s := s) hts (Nat.le_of_ble_eq_true rfl) (Nat.le_of_ble_eq_true rfl)) hE hP hK hS (rv_26 hK hP (by decide)) rfl hl.1 rfl (Nat.le_of_ble_eq_true rfl) dX7_belt_2 ⟨Nat.le_of_ble_eq_true rfl, Nat.le_of_ble_eq_true rfl⟩ (fun H locs hP hS => ?_)
  refine lv_if_eq (tgt := 20) hx hb dX7_belt_5 (by decide) (fun cz3 => ?_) (fun cz3 => ?_)
  · have hk := it_t cz3 hk
    refine lv_aload_n hx hb dX7_belt_20 rfl (lv_at hl 0 rfl) ?_
    refine lv_iconst (v := (1 : Int32)) hx hb dX7_belt_21 (by decide) ?_
    obtain ⟨M5, v4, hf6, hk⟩ := b1_s hk
    refine wc_iV0 (rest := []) (As := [.int (1 : Int32)]) ⟨hx, hb, hml, hown, hts⟩ (fun sz => k_X7_fails l hfl Z hZ X M O (1 : Int32) M5 v4 hf6 sz) (cw_RX7_165 (args := args) (s := s) hts (Nat.le_of_ble_eq_true rfl) (Nat.le_of_ble_eq_true rfl)) hE hP hK hS (rv_26 hK hP (by decide)) rfl hl.1 rfl (Nat.le_of_ble_eq_true rfl) dX7_belt_22 ⟨Nat.le_of_ble_eq_true rfl, Nat.le_of_ble_eq_true rfl⟩ (fun H locs hP hS => ?_)
    cases (show some _ = some _ from hk)
    exact we_i hx hb hr hlocks hP rfl hS dX7_belt_25 (by decide) (by decide)
  · have hk := it_f cz3 hk
    refine lv_aload_n hx hb dX7_belt_8 rfl (lv_at hl 0 rfl) ?_
    refine lv_aload_n hx hb dX7_belt_9 rfl (lv_at hl 0 rfl) ?_
    refine lv_iload_n hx hb dX7_belt_10 rfl (lv_at hl 1 rfl) ?_
    obtain ⟨v7, hf8, hk⟩ := b0_s hk
    refine wc_iV0 (rest := [.ref (Z.2.2 26 0)]) (As := [.int p0]) ⟨hx, hb, hml, hown, hts⟩ (fun sz => k_X7_beltOf l hfl Z hZ X M O p0 v7 hf8 sz) (cw_RX7_256 (args := args) (s := s) hts (Nat.le_of_ble_eq_true rfl) (Nat.le_of_ble_eq_true rfl)) hE hP hK hS (rv_26 hK hP (by decide)) rfl hl.1 rfl (Nat.le_of_ble_eq_true rfl) dX7_belt_11 ⟨Nat.le_of_ble_eq_true rfl, Nat.le_of_ble_eq_true rfl⟩ (fun H locs hP hS => ?_)
    obtain ⟨M10, v9, hf11, hk⟩ := b1_s hk
    refine wc_iV0 (rest := []) (As := [.int v7]) ⟨hx, hb, hml, hown, hts⟩ (fun sz => k_X7_tells l hfl Z hZ X M O v7 M10 v9 hf11 sz) (cw_RX7_169 (args := args) (s := s) hts (Nat.le_of_ble_eq_true rfl) (Nat.le_of_ble_eq_true rfl)) hE hP hK hS (rv_26 hK hP (by decide)) rfl hl.1 rfl (Nat.le_of_ble_eq_true rfl) dX7_belt_14 ⟨Nat.le_of_ble_eq_true rfl, Nat.le_of_ble_eq_true rfl⟩ (fun H locs hP hS => ?_)
    refine lv_goto (tgt := 25) hx hb dX7_belt_17 (by decide) ?_
    cases (show some _ = some _ from hk)
    exact we_i hx hb hr hlocks hP rfl hS dX7_belt_25 (by decide) (by decide)
set_option maxHeartbeats 4000000 in
set_option maxRecDepth 100000 in
theorem k_X7_honour (l : Launch) (hfl : l.stackTraces = false) (Z : ZT) (hZ : wD Z) (X M O : SS) (p0 : Int32) (Mz : SS) (r : Int32) (hf : f_X7_honour M p0 = some (Mz, r)) (sz : Nat) : vx_Met l yX7_honour ws_X7_honour rm_X7_honour (va_Pc [.ref (Z.2.2 26 0), .int p0] (cP Z (X, M, O) sz)) (cQi Z (X, Mz, O) (.inl r) sz) (cX Z (X, Mz, O) (.inl r : Int32 ⊕ String) sz) 0 0 (wA Z sz) := by
  refine vx_ofW (cc := cX7_honour) (maxL := 2) (ret := (some .int)) (by decide) rfl ?_
  intro p e s m args below meth c s₁ B hml htab hv
  obtain ⟨hargs, hsz, hE, hP, hK⟩ := hv
  have hx := B.exec
  have hb := B.bytes
  have hr := B.returns
  have hts0 := atoms_spec (ws := ws_X7_honour) B.pre
  have hts : ∀ w ∈ lw_all, w.before args s = true := fun w h => hts0 w (List.mem_cons_of_mem _ h)
  have hown : s.vm.findClass RX7 = some m.cls := findClass_of_methodNamed B.named
  have hlocks := B.notSynchronized
  have hout9 : ∀ (pc9 : Nat), ∀ x ∈ c.exceptionTable.toList, covers x pc9 = false := fun _ x hx9 => (htab x hx9).elim
  subst hsz
  have hS : va_S (wA Z s.heap.size) s.heap s.heap [] := va_S.rf
  have hl := lv_entry ([.ref (Z.2.2 26 0), .int p0]) (n := 2) (Nat.le_of_ble_eq_true rfl)
  have hen : entryFrame m args 2 = entryFrame m ([.ref (Z.2.2 26 0), .int p0] : List Value).toArray 2 := by rw [hargs]
  rw [hen, lg_entry_eq]
  generalize (lg_sl ([.ref (Z.2.2 26 0), .int p0]) ++ List.replicate (2 - (lg_sl ([.ref (Z.2.2 26 0), .int p0])).length) Slot.unset).toArray = ls at hl ⊢
  have hl : lv_has ls 2 [(0, .ref (Z.2.2 26 0)), (1, .int p0)] := hl
  have hk := hf
  unfold f_X7_honour at hk
  refine lv_aload_n hx hb dX7_honour_0 rfl (lv_at hl 0 rfl) ?_
  refine lv_iload_n hx hb dX7_honour_1 rfl (lv_at hl 1 rfl) ?_
  obtain ⟨v1, hf2, hk⟩ := b0_s hk
  refine wc_iV0 (rest := []) (As := [.int p0]) ⟨hx, hb, hml, hown, hts⟩ (fun sz => k_X7_isMember l hfl Z hZ X M O p0 v1 hf2 sz) (cw_RX7_214 (args := args) (s := s) hts (Nat.le_of_ble_eq_true rfl) (Nat.le_of_ble_eq_true rfl)) hE hP hK hS (rv_26 hK hP (by decide)) rfl hl.1 rfl (Nat.le_of_ble_eq_true rfl) dX7_honour_2 ⟨Nat.le_of_ble_eq_true rfl, Nat.le_of_ble_eq_true rfl⟩ (fun H locs hP hS => ?_)
  refine lv_if_eq (tgt := 21) hx hb dX7_honour_5 (by decide) (fun cz3 => ?_) (fun cz3 => ?_)
  · have hk := it_t cz3 hk
    refine lv_aload_n hx hb dX7_honour_21 rfl (lv_at hl 0 rfl) ?_
    refine lv_iconst (v := (1 : Int32)) hx hb dX7_honour_22 (by decide) ?_
    obtain ⟨M5, v4, hf6, hk⟩ := b1_s hk
    refine wc_iV0 (rest := []) (As := [.int (1 : Int32)]) ⟨hx, hb, hml, hown, hts⟩ (fun sz => k_X7_fails l hfl Z hZ X M O (1 : Int32) M5 v4 hf6 sz) (cw_RX7_165 (args := args) (s := s) hts (Nat.le_of_ble_eq_true rfl) (Nat.le_of_ble_eq_true rfl)) hE hP hK hS (rv_26 hK hP (by decide)) rfl hl.1 rfl (Nat.le_of_ble_eq_true rfl) dX7_honour_23 ⟨Nat.le_of_ble_eq_true rfl, Nat.le_of_ble_eq_true rfl⟩ (fun H locs hP hS => ?_)
    cases (show some _ = some _ from hk)
    exact we_i hx hb hr hlocks hP rfl hS dX7_honour_26 (by decide) (by decide)
  · have hk := it_f cz3 hk
    refine lv_aload_n hx hb dX7_honour_8 rfl (lv_at hl 0 rfl) ?_
    refine lv_aload_n hx hb dX7_honour_9 rfl (lv_at hl 0 rfl) ?_
    refine gf_RX7_116 hx hb hts hown hK hP (by decide) dX7_honour_10 ?_
    refine lv_iload_n hx hb dX7_honour_13 rfl (lv_at hl 1 rfl) ?_
    obtain ⟨hg7, hk⟩ := gd_s hk
    refine wa_iaload_51 hx hb hK hP (by decide) hg7 dX7_honour_14 ?_
    obtain ⟨M9, v8, hf10, hk⟩ := b1_s hk
    refine wc_iV0 (rest := []) (As := [.int (M.1 51 0 (p0).toNatClampNeg)]) ⟨hx, hb, hml, hown, hts⟩ (fun sz => k_X7_tells l hfl Z hZ X M O (M.1 51 0 (p0).toNatClampNeg) M9 v8 hf10 sz) (cw_RX7_169 (args := args) (s := s) hts (Nat.le_of_ble_eq_true rfl) (Nat.le_of_ble_eq_true rfl)) hE hP hK hS (rv_26 hK hP (by decide)) rfl hl.1 rfl (Nat.le_of_ble_eq_true rfl) dX7_honour_15 ⟨Nat.le_of_ble_eq_true rfl, Nat.le_of_ble_eq_true rfl⟩ (fun H locs hP hS => ?_)
    refine lv_goto (tgt := 26) hx hb dX7_honour_18 (by decide) ?_
    cases (show some _ = some _ from hk)
    exact we_i hx hb hr hlocks hP rfl hS dX7_honour_26 (by decide) (by decide)
set_option maxHeartbeats 4000000 in
set_option maxRecDepth 100000 in
theorem k_X7_isAheadOf (l : Launch) (hfl : l.stackTraces = false) (Z : ZT) (hZ : wD Z) (X M O : SS) (p0 : Int32) (p1 : Int32) (r : Int32) (hf : f_X7_isAheadOf M p0 p1 = some (r)) (sz : Nat) : vx_Met l yX7_isAheadOf ws_X7_isAheadOf rm_X7_isAheadOf (va_Pc [.ref (Z.2.2 26 0), .int p0, .int p1] (cP Z (X, M, O) sz)) (cQi Z (X, M, O) (.inl r) sz) (cX Z (X, M, O) (.inl r : Int32 ⊕ String) sz) 0 0 (wA Z sz) := by
  refine vx_ofW (cc := cX7_isAheadOf) (maxL := 3) (ret := (some .boolean)) (by decide) rfl ?_
  intro p e s m args below meth c s₁ B hml htab hv
  obtain ⟨hargs, hsz, hE, hP, hK⟩ := hv
  have hx := B.exec
  have hb := B.bytes
  have hr := B.returns
  have hts0 := atoms_spec (ws := ws_X7_isAheadOf) B.pre
  have hts : ∀ w ∈ lw_all, w.before args s = true := fun w h => hts0 w (List.mem_cons_of_mem _ h)
  have hown : s.vm.findClass RX7 = some m.cls := findClass_of_methodNamed B.named
  have hlocks := B.notSynchronized
  have hout9 : ∀ (pc9 : Nat), ∀ x ∈ c.exceptionTable.toList, covers x pc9 = false := fun _ x hx9 => (htab x hx9).elim
  subst hsz
  have hS : va_S (wA Z s.heap.size) s.heap s.heap [] := va_S.rf
  have hl := lv_entry ([.ref (Z.2.2 26 0), .int p0, .int p1]) (n := 3) (Nat.le_of_ble_eq_true rfl)
  have hen : entryFrame m args 3 = entryFrame m ([.ref (Z.2.2 26 0), .int p0, .int p1] : List Value).toArray 3 := by rw [hargs]
  rw [hen, lg_entry_eq]
  generalize (lg_sl ([.ref (Z.2.2 26 0), .int p0, .int p1]) ++ List.replicate (3 - (lg_sl ([.ref (Z.2.2 26 0), .int p0, .int p1])).length) Slot.unset).toArray = ls at hl ⊢
  have hl : lv_has ls 3 [(0, .ref (Z.2.2 26 0)), (1, .int p0), (2, .int p1)] := hl
  have hk := hf
  unfold f_X7_isAheadOf at hk
  refine lv_aload_n hx hb dX7_isAheadOf_0 rfl (lv_at hl 0 rfl) ?_
  refine lv_iload_n hx hb dX7_isAheadOf_1 rfl (lv_at hl 1 rfl) ?_
  obtain ⟨v1, hf2, hk⟩ := b0_s hk
  refine wc_iV0 (rest := []) (As := [.int p0]) ⟨hx, hb, hml, hown, hts⟩ (fun sz => k_X7_beltOf l hfl Z hZ X M O p0 v1 hf2 sz) (cw_RX7_256 (args := args) (s := s) hts (Nat.le_of_ble_eq_true rfl) (Nat.le_of_ble_eq_true rfl)) hE hP hK hS (rv_26 hK hP (by decide)) rfl hl.1 rfl (Nat.le_of_ble_eq_true rfl) dX7_isAheadOf_2 ⟨Nat.le_of_ble_eq_true rfl, Nat.le_of_ble_eq_true rfl⟩ (fun H locs hP hS => ?_)
  refine lv_aload_n hx hb dX7_isAheadOf_5 rfl (lv_at hl 0 rfl) ?_
  refine lv_iload_n hx hb dX7_isAheadOf_6 rfl (lv_at hl 2 rfl) ?_
  obtain ⟨v3, hf4, hk⟩ := b0_s hk
  refine wc_iV0 (rest := [.int v1]) (As := [.int p1]) ⟨hx, hb, hml, hown, hts⟩ (fun sz => k_X7_beltOf l hfl Z hZ X M O p1 v3 hf4 sz) (cw_RX7_256 (args := args) (s := s) hts (Nat.le_of_ble_eq_true rfl) (Nat.le_of_ble_eq_true rfl)) hE hP hK hS (rv_26 hK hP (by decide)) rfl hl.1 rfl (Nat.le_of_ble_eq_true rfl) dX7_isAheadOf_7 ⟨Nat.le_of_ble_eq_true rfl, Nat.le_of_ble_eq_true rfl⟩ (fun H locs hP hS => ?_)
  refine lv_icmp_eq (tgt := 32) hx hb dX7_isAheadOf_10 (by decide) (fun cz5 => ?_) (fun cz5 => ?_)
  · have hk := it_t cz5 hk
    refine lv_aload_n hx hb dX7_isAheadOf_32 rfl (lv_at hl 0 rfl) ?_
    refine lv_iload_n hx hb dX7_isAheadOf_33 rfl (lv_at hl 1 rfl) ?_
    obtain ⟨v6, hf7, hk⟩ := b0_s hk
    refine wc_fV0 (rest := []) (As := [.int p0]) ⟨hx, hb, hml, hown, hts⟩ (fun sz => k_X7_pointsOf l hfl Z hZ X M O p0 v6 hf7 sz) (cw_RX7_274 (args := args) (s := s) hts (Nat.le_of_ble_eq_true rfl) (Nat.le_of_ble_eq_true rfl)) hE hP hK hS (rv_26 hK hP (by decide)) rfl hl.1 rfl (Nat.le_of_ble_eq_true rfl) dX7_isAheadOf_34 ⟨Nat.le_of_ble_eq_true rfl, Nat.le_of_ble_eq_true rfl⟩ (fun H locs hP hS => ?_)
    refine lv_aload_n hx hb dX7_isAheadOf_37 rfl (lv_at hl 0 rfl) ?_
    refine lv_iload_n hx hb dX7_isAheadOf_38 rfl (lv_at hl 2 rfl) ?_
    obtain ⟨v8, hf9, hk⟩ := b0_s hk
    refine wc_fV0 (rest := [.float v6]) (As := [.int p1]) ⟨hx, hb, hml, hown, hts⟩ (fun sz => k_X7_pointsOf l hfl Z hZ X M O p1 v8 hf9 sz) (cw_RX7_274 (args := args) (s := s) hts (Nat.le_of_ble_eq_true rfl) (Nat.le_of_ble_eq_true rfl)) hE hP hK hS (rv_26 hK hP (by decide)) rfl hl.1 rfl (Nat.le_of_ble_eq_true rfl) dX7_isAheadOf_39 ⟨Nat.le_of_ble_eq_true rfl, Nat.le_of_ble_eq_true rfl⟩ (fun H locs hP hS => ?_)
    refine lv_fcmp hx hb dX7_isAheadOf_42 ?_
    refine lv_if_gt (tgt := 65) hx hb dX7_isAheadOf_43 (by decide) (fun cz10 => ?_) (fun cz10 => ?_)
    · have hk := it_t cz10 hk
      refine lv_iconst (v := (1 : Int32)) hx hb dX7_isAheadOf_65 (by decide) ?_
      refine lv_goto (tgt := 70) hx hb dX7_isAheadOf_66 (by decide) ?_
      cases (show some _ = some _ from hk)
      exact we_z hx hb hr hlocks (show okz (1 : Int32) by unfold okz; decide).1 hP rfl hS dX7_isAheadOf_70 (by decide) (by decide)
    · have hk := it_f cz10 hk
      refine lv_aload_n hx hb dX7_isAheadOf_46 rfl (lv_at hl 0 rfl) ?_
      refine lv_iload_n hx hb dX7_isAheadOf_47 rfl (lv_at hl 1 rfl) ?_
      obtain ⟨v11, hf12, hk⟩ := b0_s hk
      refine wc_fV0 (rest := []) (As := [.int p0]) ⟨hx, hb, hml, hown, hts⟩ (fun sz => k_X7_pointsOf l hfl Z hZ X M O p0 v11 hf12 sz) (cw_RX7_274 (args := args) (s := s) hts (Nat.le_of_ble_eq_true rfl) (Nat.le_of_ble_eq_true rfl)) hE hP hK hS (rv_26 hK hP (by decide)) rfl hl.1 rfl (Nat.le_of_ble_eq_true rfl) dX7_isAheadOf_48 ⟨Nat.le_of_ble_eq_true rfl, Nat.le_of_ble_eq_true rfl⟩ (fun H locs hP hS => ?_)
      refine lv_aload_n hx hb dX7_isAheadOf_51 rfl (lv_at hl 0 rfl) ?_
      refine lv_iload_n hx hb dX7_isAheadOf_52 rfl (lv_at hl 2 rfl) ?_
      obtain ⟨v13, hf14, hk⟩ := b0_s hk
      refine wc_fV0 (rest := [.float v11]) (As := [.int p1]) ⟨hx, hb, hml, hown, hts⟩ (fun sz => k_X7_pointsOf l hfl Z hZ X M O p1 v13 hf14 sz) (cw_RX7_274 (args := args) (s := s) hts (Nat.le_of_ble_eq_true rfl) (Nat.le_of_ble_eq_true rfl)) hE hP hK hS (rv_26 hK hP (by decide)) rfl hl.1 rfl (Nat.le_of_ble_eq_true rfl) dX7_isAheadOf_53 ⟨Nat.le_of_ble_eq_true rfl, Nat.le_of_ble_eq_true rfl⟩ (fun H locs hP hS => ?_)
      refine lv_fcmp hx hb dX7_isAheadOf_56 ?_
      refine lv_if_ne (tgt := 69) hx hb dX7_isAheadOf_57 (by decide) (fun cz15 => ?_) (fun cz15 => ?_)
      · have hk := it_f cz15 hk
        refine lv_iconst (v := (0 : Int32)) hx hb dX7_isAheadOf_69 (by decide) ?_
        cases (show some _ = some _ from hk)
        exact we_z hx hb hr hlocks (show okz (0 : Int32) by unfold okz; decide).1 hP rfl hS dX7_isAheadOf_70 (by decide) (by decide)
      · have hk := it_t cz15 hk
        refine lv_iload_n hx hb dX7_isAheadOf_60 rfl (lv_at hl 1 rfl) ?_
        refine lv_iload_n hx hb dX7_isAheadOf_61 rfl (lv_at hl 2 rfl) ?_
        refine lv_icmp_ge (tgt := 69) hx hb dX7_isAheadOf_62 (by decide) (fun cz16 => ?_) (fun cz16 => ?_)
        · have hk := it_t cz16 hk
          refine lv_iconst (v := (0 : Int32)) hx hb dX7_isAheadOf_69 (by decide) ?_
          cases (show some _ = some _ from hk)
          exact we_z hx hb hr hlocks (show okz (0 : Int32) by unfold okz; decide).1 hP rfl hS dX7_isAheadOf_70 (by decide) (by decide)
        · have hk := it_f cz16 hk
          refine lv_iconst (v := (1 : Int32)) hx hb dX7_isAheadOf_65 (by decide) ?_
          refine lv_goto (tgt := 70) hx hb dX7_isAheadOf_66 (by decide) ?_
          cases (show some _ = some _ from hk)
          exact we_z hx hb hr hlocks (show okz (1 : Int32) by unfold okz; decide).1 hP rfl hS dX7_isAheadOf_70 (by decide) (by decide)
  · have hk := it_f cz5 hk
    refine lv_aload_n hx hb dX7_isAheadOf_13 rfl (lv_at hl 0 rfl) ?_
    refine lv_iload_n hx hb dX7_isAheadOf_14 rfl (lv_at hl 1 rfl) ?_
    obtain ⟨v17, hf18, hk⟩ := b0_s hk
    refine wc_iV0 (rest := []) (As := [.int p0]) ⟨hx, hb, hml, hown, hts⟩ (fun sz => k_X7_beltOf l hfl Z hZ X M O p0 v17 hf18 sz) (cw_RX7_256 (args := args) (s := s) hts (Nat.le_of_ble_eq_true rfl) (Nat.le_of_ble_eq_true rfl)) hE hP hK hS (rv_26 hK hP (by decide)) rfl hl.1 rfl (Nat.le_of_ble_eq_true rfl) dX7_isAheadOf_15 ⟨Nat.le_of_ble_eq_true rfl, Nat.le_of_ble_eq_true rfl⟩ (fun H locs hP hS => ?_)
    refine lv_aload_n hx hb dX7_isAheadOf_18 rfl (lv_at hl 0 rfl) ?_
    refine lv_iload_n hx hb dX7_isAheadOf_19 rfl (lv_at hl 2 rfl) ?_
    obtain ⟨v19, hf20, hk⟩ := b0_s hk
    refine wc_iV0 (rest := [.int v17]) (As := [.int p1]) ⟨hx, hb, hml, hown, hts⟩ (fun sz => k_X7_beltOf l hfl Z hZ X M O p1 v19 hf20 sz) (cw_RX7_256 (args := args) (s := s) hts (Nat.le_of_ble_eq_true rfl) (Nat.le_of_ble_eq_true rfl)) hE hP hK hS (rv_26 hK hP (by decide)) rfl hl.1 rfl (Nat.le_of_ble_eq_true rfl) dX7_isAheadOf_20 ⟨Nat.le_of_ble_eq_true rfl, Nat.le_of_ble_eq_true rfl⟩ (fun H locs hP hS => ?_)
    refine lv_icmp_le (tgt := 30) hx hb dX7_isAheadOf_23 (by decide) (fun cz21 => ?_) (fun cz21 => ?_)
    · have hk := it_t cz21 hk
      refine lv_iconst (v := (0 : Int32)) hx hb dX7_isAheadOf_30 (by decide) ?_
      cases (show some _ = some _ from hk)
      exact we_z hx hb hr hlocks (show okz (0 : Int32) by unfold okz; decide).1 hP rfl hS dX7_isAheadOf_31 (by decide) (by decide)
    · have hk := it_f cz21 hk
      refine lv_iconst (v := (1 : Int32)) hx hb dX7_isAheadOf_26 (by decide) ?_
      refine lv_goto (tgt := 31) hx hb dX7_isAheadOf_27 (by decide) ?_
      cases (show some _ = some _ from hk)
      exact we_z hx hb hr hlocks (show okz (1 : Int32) by unfold okz; decide).1 hP rfl hS dX7_isAheadOf_31 (by decide) (by decide)
set_option maxHeartbeats 4000000 in
set_option maxRecDepth 100000 in
theorem k_X7_ranked (l : Launch) (hfl : l.stackTraces = false) (Z : ZT) (hZ : wD Z) (X M O : SS) (p0 : Int32) (Mz : SS) (r : Int32) (hf : f_X7_ranked M p0 = some (Mz, r)) (sz : Nat) : vx_Met l yX7_ranked ws_X7_ranked rm_X7_ranked (va_Pc [.ref (Z.2.2 26 0), .int p0] (cP Z (X, M, O) sz)) (cQi Z (X, Mz, O) (.inl r) sz) (cX Z (X, Mz, O) (.inl r : Int32 ⊕ String) sz) 0 0 (wA Z sz) := by
  refine vx_ofW (cc := cX7_ranked) (maxL := 5) (ret := (some .int)) (by decide) rfl ?_
  intro p e s m args below meth c s₁ B hml htab hv
  obtain ⟨hargs, hsz, hE, hP, hK⟩ := hv
  have hx := B.exec
  have hb := B.bytes
  have hr := B.returns
  have hts0 := atoms_spec (ws := ws_X7_ranked) B.pre
  have hts : ∀ w ∈ lw_all, w.before args s = true := fun w h => hts0 w (List.mem_cons_of_mem _ h)
  have hown : s.vm.findClass RX7 = some m.cls := findClass_of_methodNamed B.named
  have hlocks := B.notSynchronized
  have hout9 : ∀ (pc9 : Nat), ∀ x ∈ c.exceptionTable.toList, covers x pc9 = false := fun _ x hx9 => (htab x hx9).elim
  subst hsz
  have hS : va_S (wA Z s.heap.size) s.heap s.heap [] := va_S.rf
  have hl := lv_entry ([.ref (Z.2.2 26 0), .int p0]) (n := 5) (Nat.le_of_ble_eq_true rfl)
  have hen : entryFrame m args 5 = entryFrame m ([.ref (Z.2.2 26 0), .int p0] : List Value).toArray 5 := by rw [hargs]
  rw [hen, lg_entry_eq]
  generalize (lg_sl ([.ref (Z.2.2 26 0), .int p0]) ++ List.replicate (5 - (lg_sl ([.ref (Z.2.2 26 0), .int p0])).length) Slot.unset).toArray = ls at hl ⊢
  have hl : lv_has ls 5 [(0, .ref (Z.2.2 26 0)), (1, .int p0)] := hl
  have hk := hf
  unfold f_X7_ranked at hk
  refine lv_iconst (v := (0 : Int32)) hx hb dX7_ranked_0 (by decide) ?_
  refine lv_istore_n (lv' := [(2, .int (0 : Int32)), (0, .ref (Z.2.2 26 0)), (1, .int p0)]) hx hb dX7_ranked_1 rfl hl (by decide) rfl (fun ls hl => ?_)
  obtain ⟨k1, hk1, hk⟩ := gn hk
  have ex1 : ∀ (H : Heap) (locs : List Loc) (ls : Array Slot), k1 () = some (Mz, r) → wP Z (X, M, O) H → va_S (wA Z s.heap.size) s.heap H locs → lv_has ls 5 [(0, .ref (Z.2.2 26 0))] → W p l e (headSpec ws_X7_ranked rm_X7_ranked).room s m args below meth c H locs 0 0 (vx_MQ below (cQi Z (X, Mz, O) (.inl r) s.heap.size) (cX Z (X, Mz, O) (.inl r : Int32 ⊕ String) s.heap.size) args s 0 0 (wA Z s.heap.size)) (F0 m 71 ls []) := by
    intro  H locs ls hk hP hS hl
    subst hk1
    refine lv_aload_n hx hb dX7_ranked_71 rfl (lv_at hl 0 rfl) ?_
    refine lv_iconst (v := (1 : Int32)) hx hb dX7_ranked_72 (by decide) ?_
    obtain ⟨M4, v3, hf5, hk⟩ := b1_s hk
    refine wc_iV0 (rest := []) (As := [.int (1 : Int32)]) ⟨hx, hb, hml, hown, hts⟩ (fun sz => k_X7_fails l hfl Z hZ X M O (1 : Int32) M4 v3 hf5 sz) (cw_RX7_165 (args := args) (s := s) hts (Nat.le_of_ble_eq_true rfl) (Nat.le_of_ble_eq_true rfl)) hE hP hK hS (rv_26 hK hP (by decide)) rfl hl.1 rfl (Nat.le_of_ble_eq_true rfl) dX7_ranked_73 ⟨Nat.le_of_ble_eq_true rfl, Nat.le_of_ble_eq_true rfl⟩ (fun H locs hP hS => ?_)
    cases (show some _ = some _ from hk)
    exact we_i hx hb hr hlocks hP rfl hS dX7_ranked_76 (by decide) (by decide)
  have lp1 : ∀ (n : Nat) (v2 : Int32) (H : Heap) (locs : List Loc) (ls : Array Slot), f_X7_ranked_L2 M p0 n v2 k1 = some (Mz, r) → wP Z (X, M, O) H → va_S (wA Z s.heap.size) s.heap H locs → lv_has ls 5 [(2, .int v2), (0, .ref (Z.2.2 26 0)), (1, .int p0)] → W p l e (headSpec ws_X7_ranked rm_X7_ranked).room s m args below meth c H locs 0 0 (vx_MQ below (cQi Z (X, Mz, O) (.inl r) s.heap.size) (cX Z (X, Mz, O) (.inl r : Int32 ⊕ String) s.heap.size) args s 0 0 (wA Z s.heap.size)) (F0 m 2 ls []) := by
    intro n
    induction n with
    | zero =>
      intro v2 H locs ls hk
      rw [f_X7_ranked_L2] at hk
      exact nomatch (show none = some _ from hk)
    | succ n ih =>
      intro v2 H locs ls hk hP hS hl
      rw [f_X7_ranked_L2] at hk
      refine lv_iload_n hx hb dX7_ranked_2 rfl (lv_at hl 0 rfl) ?_
      refine lv_aload_n hx hb dX7_ranked_3 rfl (lv_at hl 1 rfl) ?_
      refine gf_RX7_22 hx hb hts hown hK hP (by decide) dX7_ranked_4 ?_
      refine lv_icmp_ge (tgt := 71) hx hb dX7_ranked_7 (by decide) (fun cz6 => ?_) (fun cz6 => ?_)
      · have hk := it_t cz6 hk
        exact ex1 _ _ _ hk hP hS (lv_sub hl [1] rfl)
      · have hk := it_f cz6 hk
        refine lv_iconst (v := (0 : Int32)) hx hb dX7_ranked_10 (by decide) ?_
        refine lv_istore_n (lv' := [(3, .int (0 : Int32)), (2, .int v2), (0, .ref (Z.2.2 26 0)), (1, .int p0)]) hx hb dX7_ranked_11 rfl hl (by decide) rfl (fun ls hl => ?_)
        refine lv_iconst (v := (0 : Int32)) hx hb dX7_ranked_12 (by decide) ?_
        refine lv_istore (lv' := [(4, .int (0 : Int32)), (3, .int (0 : Int32)), (2, .int v2), (0, .ref (Z.2.2 26 0)), (1, .int p0)]) hx hb dX7_ranked_13 hl (by decide) rfl (fun ls hl => ?_)
        obtain ⟨k7, hk7, hk⟩ := gn hk
        have ex7 : ∀ (v8 : Int32) (H : Heap) (locs : List Loc) (ls : Array Slot), k7 v8 = some (Mz, r) → wP Z (X, M, O) H → va_S (wA Z s.heap.size) s.heap H locs → lv_has ls 5 [(3, .int v8), (2, .int v2), (0, .ref (Z.2.2 26 0)), (1, .int p0)] → W p l e (headSpec ws_X7_ranked rm_X7_ranked).room s m args below meth c H locs 0 0 (vx_MQ below (cQi Z (X, Mz, O) (.inl r) s.heap.size) (cX Z (X, Mz, O) (.inl r : Int32 ⊕ String) s.heap.size) args s 0 0 (wA Z s.heap.size)) (F0 m 54 ls []) := by
          intro v8 H locs ls hk hP hS hl
          subst hk7
          refine lv_iload_n hx hb dX7_ranked_54 rfl (lv_at hl 0 rfl) ?_
          refine lv_iload_n hx hb dX7_ranked_55 rfl (lv_at hl 3 rfl) ?_
          refine lv_icmp_ne (tgt := 65) hx hb dX7_ranked_56 (by decide) (fun cz11 => ?_) (fun cz11 => ?_)
          · have hk := it_f cz11 hk
            refine lv_iinc (v := (v2 + (1 : Int32))) (lv' := [(2, .int (v2 + (1 : Int32))), (3, .int v8), (0, .ref (Z.2.2 26 0)), (1, .int p0)]) hx hb dX7_ranked_65 hl (k := 1) rfl rfl (by decide) rfl (fun ls hl => ?_)
            refine lv_goto (tgt := 2) hx hb dX7_ranked_68 (by decide) ?_
            exact ih (v2 + (1 : Int32)) _ _ _ hk hP hS (lv_sub hl [0, 2, 3] rfl)
          · have hk := it_t cz11 hk
            refine lv_aload_n hx hb dX7_ranked_59 rfl (lv_at hl 2 rfl) ?_
            refine lv_iload_n hx hb dX7_ranked_60 rfl (lv_at hl 1 rfl) ?_
            obtain ⟨M13, v12, hf14, hk⟩ := b1_s hk
            refine wc_iV0 (rest := []) (As := [.int v2]) ⟨hx, hb, hml, hown, hts⟩ (fun sz => k_X7_tells l hfl Z hZ X M O v2 M13 v12 hf14 sz) (cw_RX7_169 (args := args) (s := s) hts (Nat.le_of_ble_eq_true rfl) (Nat.le_of_ble_eq_true rfl)) hE hP hK hS (rv_26 hK hP (by decide)) rfl hl.1 rfl (Nat.le_of_ble_eq_true rfl) dX7_ranked_61 ⟨Nat.le_of_ble_eq_true rfl, Nat.le_of_ble_eq_true rfl⟩ (fun H locs hP hS => ?_)
            cases (show some _ = some _ from hk)
            exact we_i hx hb hr hlocks hP rfl hS dX7_ranked_64 (by decide) (by decide)
        have lp7 : ∀ (n : Nat) (v9 : Int32) (v10 : Int32) (H : Heap) (locs : List Loc) (ls : Array Slot), f_X7_ranked_L15 M v2 n v9 v10 k7 = some (Mz, r) → wP Z (X, M, O) H → va_S (wA Z s.heap.size) s.heap H locs → lv_has ls 5 [(4, .int v9), (3, .int v10), (2, .int v2), (0, .ref (Z.2.2 26 0)), (1, .int p0)] → W p l e (headSpec ws_X7_ranked rm_X7_ranked).room s m args below meth c H locs 0 0 (vx_MQ below (cQi Z (X, Mz, O) (.inl r) s.heap.size) (cX Z (X, Mz, O) (.inl r : Int32 ⊕ String) s.heap.size) args s 0 0 (wA Z s.heap.size)) (F0 m 15 ls []) := by
          intro n
          induction n with
          | zero =>
            intro v9 v10 H locs ls hk
            rw [f_X7_ranked_L15] at hk
            exact nomatch (show none = some _ from hk)
          | succ n ih =>
            intro v9 v10 H locs ls hk hP hS hl
            rw [f_X7_ranked_L15] at hk
            refine lv_iload hx hb dX7_ranked_15 (lv_at hl 0 rfl) ?_
            refine lv_aload_n hx hb dX7_ranked_17 rfl (lv_at hl 3 rfl) ?_
            refine gf_RX7_22 hx hb hts hown hK hP (by decide) dX7_ranked_18 ?_
            refine lv_icmp_ge (tgt := 54) hx hb dX7_ranked_21 (by decide) (fun cz15 => ?_) (fun cz15 => ?_)
            · have hk := it_t cz15 hk
              exact ex7 v10 _ _ _ hk hP hS (lv_sub hl [1, 2, 3, 4] rfl)
            · have hk := it_f cz15 hk
              refine lv_iload_n hx hb dX7_ranked_24 rfl (lv_at hl 1 rfl) ?_
              refine lv_iload hx hb dX7_ranked_25 (lv_at hl 0 rfl) ?_
              refine lv_iload_n hx hb dX7_ranked_27 rfl (lv_at hl 2 rfl) ?_
              refine lv_icmp_eq (tgt := 45) hx hb dX7_ranked_28 (by decide) (fun cz16 => ?_) (fun cz16 => ?_)
              · have hk := it_t cz16 hk
                refine lv_iconst (v := (0 : Int32)) hx hb dX7_ranked_45 (by decide) ?_
                refine lv_iadd hx hb dX7_ranked_46 ?_
                obtain ⟨v17, ev17, hk⟩ := lq_s hk
                refine W.eq (g2 := F0 m 47 ls [.int v17]) (by rw [ev17]) ?_
                refine lv_istore_n (lv' := [(3, .int v17), (4, .int v9), (2, .int v2), (0, .ref (Z.2.2 26 0)), (1, .int p0)]) hx hb dX7_ranked_47 rfl hl (by decide) rfl (fun ls hl => ?_)
                refine lv_iinc (v := (v9 + (1 : Int32))) (lv' := [(4, .int (v9 + (1 : Int32))), (3, .int v17), (2, .int v2), (0, .ref (Z.2.2 26 0)), (1, .int p0)]) hx hb dX7_ranked_48 hl (k := 1) rfl rfl (by decide) rfl (fun ls hl => ?_)
                refine lv_goto (tgt := 15) hx hb dX7_ranked_51 (by decide) ?_
                exact ih (v9 + (1 : Int32)) v17 _ _ _ hk hP hS (lv_sub hl [0, 1, 2, 3, 4] rfl)
              · have hk := it_f cz16 hk
                refine lv_aload_n hx hb dX7_ranked_31 rfl (lv_at hl 3 rfl) ?_
                refine lv_iload hx hb dX7_ranked_32 (lv_at hl 0 rfl) ?_
                refine lv_iload_n hx hb dX7_ranked_34 rfl (lv_at hl 2 rfl) ?_
                obtain ⟨v18, hf19, hk⟩ := b0_s hk
                refine wc_iV0 (rest := [.int v10]) (As := [.int v9, .int v2]) ⟨hx, hb, hml, hown, hts⟩ (fun sz => k_X7_isAheadOf l hfl Z hZ X M O v9 v2 v18 hf19 sz) (cw_RX7_278 (args := args) (s := s) hts (Nat.le_of_ble_eq_true rfl) (Nat.le_of_ble_eq_true rfl)) hE hP hK hS (rv_26 hK hP (by decide)) rfl hl.1 rfl (Nat.le_of_ble_eq_true rfl) dX7_ranked_35 ⟨Nat.le_of_ble_eq_true rfl, Nat.le_of_ble_eq_true rfl⟩ (fun H locs hP hS => ?_)
                refine lv_if_eq (tgt := 45) hx hb dX7_ranked_38 (by decide) (fun cz20 => ?_) (fun cz20 => ?_)
                · have hk := it_t cz20 hk
                  refine lv_iconst (v := (0 : Int32)) hx hb dX7_ranked_45 (by decide) ?_
                  refine lv_iadd hx hb dX7_ranked_46 ?_
                  obtain ⟨v21, ev21, hk⟩ := lq_s hk
                  refine W.eq (g2 := F0 m 47 ls [.int v21]) (by rw [ev21]) ?_
                  refine lv_istore_n (lv' := [(3, .int v21), (4, .int v9), (2, .int v2), (0, .ref (Z.2.2 26 0)), (1, .int p0)]) hx hb dX7_ranked_47 rfl hl (by decide) rfl (fun ls hl => ?_)
                  refine lv_iinc (v := (v9 + (1 : Int32))) (lv' := [(4, .int (v9 + (1 : Int32))), (3, .int v21), (2, .int v2), (0, .ref (Z.2.2 26 0)), (1, .int p0)]) hx hb dX7_ranked_48 hl (k := 1) rfl rfl (by decide) rfl (fun ls hl => ?_)
                  refine lv_goto (tgt := 15) hx hb dX7_ranked_51 (by decide) ?_
                  exact ih (v9 + (1 : Int32)) v21 _ _ _ hk hP hS (lv_sub hl [0, 1, 2, 3, 4] rfl)
                · have hk := it_f cz20 hk
                  refine lv_iconst (v := (1 : Int32)) hx hb dX7_ranked_41 (by decide) ?_
                  refine lv_goto (tgt := 46) hx hb dX7_ranked_42 (by decide) ?_
                  refine lv_iadd hx hb dX7_ranked_46 ?_
                  obtain ⟨v22, ev22, hk⟩ := lq_s hk
                  refine W.eq (g2 := F0 m 47 ls [.int v22]) (by rw [ev22]) ?_
                  refine lv_istore_n (lv' := [(3, .int v22), (4, .int v9), (2, .int v2), (0, .ref (Z.2.2 26 0)), (1, .int p0)]) hx hb dX7_ranked_47 rfl hl (by decide) rfl (fun ls hl => ?_)
                  refine lv_iinc (v := (v9 + (1 : Int32))) (lv' := [(4, .int (v9 + (1 : Int32))), (3, .int v22), (2, .int v2), (0, .ref (Z.2.2 26 0)), (1, .int p0)]) hx hb dX7_ranked_48 hl (k := 1) rfl rfl (by decide) rfl (fun ls hl => ?_)
                  refine lv_goto (tgt := 15) hx hb dX7_ranked_51 (by decide) ?_
                  exact ih (v9 + (1 : Int32)) v22 _ _ _ hk hP hS (lv_sub hl [0, 1, 2, 3, 4] rfl)
        exact lp7 1000 (0 : Int32) (0 : Int32) _ _ _ hk hP hS (lv_sub hl [0, 1, 2, 3, 4] rfl)
  exact lp1 1000 (0 : Int32) _ _ _ hk hP hS (lv_sub hl [0, 1, 2] rfl)
set_option maxHeartbeats 4000000 in
set_option maxRecDepth 100000 in
theorem k_X7_openCount (l : Launch) (hfl : l.stackTraces = false) (Z : ZT) (hZ : wD Z) (X M O : SS) (r : Int32) (hf : f_X7_openCount M = some (r)) (sz : Nat) : vx_Met l yX7_openCount ws_X7_openCount rm_X7_openCount (va_Pc [.ref (Z.2.2 26 0)] (cP Z (X, M, O) sz)) (cQi Z (X, M, O) (.inl r) sz) (cX Z (X, M, O) (.inl r : Int32 ⊕ String) sz) 0 0 (wA Z sz) := by
  refine vx_ofW (cc := cX7_openCount) (maxL := 3) (ret := (some .int)) (by decide) rfl ?_
  intro p e s m args below meth c s₁ B hml htab hv
  obtain ⟨hargs, hsz, hE, hP, hK⟩ := hv
  have hx := B.exec
  have hb := B.bytes
  have hr := B.returns
  have hts0 := atoms_spec (ws := ws_X7_openCount) B.pre
  have hts : ∀ w ∈ lw_all, w.before args s = true := fun w h => hts0 w (List.mem_cons_of_mem _ h)
  have hown : s.vm.findClass RX7 = some m.cls := findClass_of_methodNamed B.named
  have hlocks := B.notSynchronized
  have hout9 : ∀ (pc9 : Nat), ∀ x ∈ c.exceptionTable.toList, covers x pc9 = false := fun _ x hx9 => (htab x hx9).elim
  subst hsz
  have hS : va_S (wA Z s.heap.size) s.heap s.heap [] := va_S.rf
  have hl := lv_entry ([.ref (Z.2.2 26 0)]) (n := 3) (Nat.le_of_ble_eq_true rfl)
  have hen : entryFrame m args 3 = entryFrame m ([.ref (Z.2.2 26 0)] : List Value).toArray 3 := by rw [hargs]
  rw [hen, lg_entry_eq]
  generalize (lg_sl ([.ref (Z.2.2 26 0)]) ++ List.replicate (3 - (lg_sl ([.ref (Z.2.2 26 0)])).length) Slot.unset).toArray = ls at hl ⊢
  have hl : lv_has ls 3 [(0, .ref (Z.2.2 26 0))] := hl
  have hk := hf
  unfold f_X7_openCount at hk
  refine lv_iconst (v := (0 : Int32)) hx hb dX7_openCount_0 (by decide) ?_
  refine lv_istore_n (lv' := [(1, .int (0 : Int32)), (0, .ref (Z.2.2 26 0))]) hx hb dX7_openCount_1 rfl hl (by decide) rfl (fun ls hl => ?_)
  refine lv_iconst (v := (0 : Int32)) hx hb dX7_openCount_2 (by decide) ?_
  refine lv_istore_n (lv' := [(2, .int (0 : Int32)), (1, .int (0 : Int32)), (0, .ref (Z.2.2 26 0))]) hx hb dX7_openCount_3 rfl hl (by decide) rfl (fun ls hl => ?_)
  obtain ⟨k1, hk1, hk⟩ := gn hk
  have ex1 : ∀ (v2 : Int32) (H : Heap) (locs : List Loc) (ls : Array Slot), k1 v2 = some (r) → wP Z (X, M, O) H → va_S (wA Z s.heap.size) s.heap H locs → lv_has ls 3 [(1, .int v2)] → W p l e (headSpec ws_X7_openCount rm_X7_openCount).room s m args below meth c H locs 0 0 (vx_MQ below (cQi Z (X, M, O) (.inl r) s.heap.size) (cX Z (X, M, O) (.inl r : Int32 ⊕ String) s.heap.size) args s 0 0 (wA Z s.heap.size)) (F0 m 37 ls []) := by
    intro v2 H locs ls hk hP hS hl
    subst hk1
    refine lv_iload_n hx hb dX7_openCount_37 rfl (lv_at hl 0 rfl) ?_
    cases (show some _ = some _ from hk)
    exact we_i hx hb hr hlocks hP rfl hS dX7_openCount_38 (by decide) (by decide)
  have lp1 : ∀ (n : Nat) (v3 : Int32) (v4 : Int32) (H : Heap) (locs : List Loc) (ls : Array Slot), f_X7_openCount_L4 M n v3 v4 k1 = some (r) → wP Z (X, M, O) H → va_S (wA Z s.heap.size) s.heap H locs → lv_has ls 3 [(2, .int v3), (1, .int v4), (0, .ref (Z.2.2 26 0))] → W p l e (headSpec ws_X7_openCount rm_X7_openCount).room s m args below meth c H locs 0 0 (vx_MQ below (cQi Z (X, M, O) (.inl r) s.heap.size) (cX Z (X, M, O) (.inl r : Int32 ⊕ String) s.heap.size) args s 0 0 (wA Z s.heap.size)) (F0 m 4 ls []) := by
    intro n
    induction n with
    | zero =>
      intro v3 v4 H locs ls hk
      rw [f_X7_openCount_L4] at hk
      exact nomatch (show none = some _ from hk)
    | succ n ih =>
      intro v3 v4 H locs ls hk hP hS hl
      rw [f_X7_openCount_L4] at hk
      refine lv_iload_n hx hb dX7_openCount_4 rfl (lv_at hl 0 rfl) ?_
      refine lv_aload_n hx hb dX7_openCount_5 rfl (lv_at hl 2 rfl) ?_
      refine gf_RX7_25 hx hb hts hown hK hP (by decide) dX7_openCount_6 ?_
      refine lv_icmp_ge (tgt := 37) hx hb dX7_openCount_9 (by decide) (fun cz5 => ?_) (fun cz5 => ?_)
      · have hk := it_t cz5 hk
        exact ex1 v4 _ _ _ hk hP hS (lv_sub hl [1] rfl)
      · have hk := it_f cz5 hk
        refine lv_iload_n hx hb dX7_openCount_12 rfl (lv_at hl 1 rfl) ?_
        refine lv_aload_n hx hb dX7_openCount_13 rfl (lv_at hl 2 rfl) ?_
        refine gf_RX7_88 hx hb hts hown hK hP (by decide) dX7_openCount_14 ?_
        refine lv_iload_n hx hb dX7_openCount_17 rfl (lv_at hl 0 rfl) ?_
        obtain ⟨hg6, hk⟩ := gd_s hk
        refine wa_caload_42 hx hb hK hP (by decide) hg6 dX7_openCount_18 ?_
        refine lv_bipush (v := (99 : Int32)) hx hb dX7_openCount_19 (by decide) ?_
        refine lv_icmp_ne (tgt := 28) hx hb dX7_openCount_21 (by decide) (fun cz7 => ?_) (fun cz7 => ?_)
        · have hk := it_f cz7 hk
          refine lv_iconst (v := (0 : Int32)) hx hb dX7_openCount_28 (by decide) ?_
          refine lv_iadd hx hb dX7_openCount_29 ?_
          obtain ⟨v8, ev8, hk⟩ := lq_s hk
          refine W.eq (g2 := F0 m 30 ls [.int v8]) (by rw [ev8]) ?_
          refine lv_istore_n (lv' := [(1, .int v8), (2, .int v3), (0, .ref (Z.2.2 26 0))]) hx hb dX7_openCount_30 rfl hl (by decide) rfl (fun ls hl => ?_)
          refine lv_iinc (v := (v3 + (1 : Int32))) (lv' := [(2, .int (v3 + (1 : Int32))), (1, .int v8), (0, .ref (Z.2.2 26 0))]) hx hb dX7_openCount_31 hl (k := 1) rfl rfl (by decide) rfl (fun ls hl => ?_)
          refine lv_goto (tgt := 4) hx hb dX7_openCount_34 (by decide) ?_
          exact ih (v3 + (1 : Int32)) v8 _ _ _ hk hP hS (lv_sub hl [0, 1, 2] rfl)
        · have hk := it_t cz7 hk
          refine lv_iconst (v := (1 : Int32)) hx hb dX7_openCount_24 (by decide) ?_
          refine lv_goto (tgt := 29) hx hb dX7_openCount_25 (by decide) ?_
          refine lv_iadd hx hb dX7_openCount_29 ?_
          obtain ⟨v9, ev9, hk⟩ := lq_s hk
          refine W.eq (g2 := F0 m 30 ls [.int v9]) (by rw [ev9]) ?_
          refine lv_istore_n (lv' := [(1, .int v9), (2, .int v3), (0, .ref (Z.2.2 26 0))]) hx hb dX7_openCount_30 rfl hl (by decide) rfl (fun ls hl => ?_)
          refine lv_iinc (v := (v3 + (1 : Int32))) (lv' := [(2, .int (v3 + (1 : Int32))), (1, .int v9), (0, .ref (Z.2.2 26 0))]) hx hb dX7_openCount_31 hl (k := 1) rfl rfl (by decide) rfl (fun ls hl => ?_)
          refine lv_goto (tgt := 4) hx hb dX7_openCount_34 (by decide) ?_
          exact ih (v3 + (1 : Int32)) v9 _ _ _ hk hP hS (lv_sub hl [0, 1, 2] rfl)
  exact lp1 1000 (0 : Int32) (0 : Int32) _ _ _ hk hP hS (lv_sub hl [0, 1, 2] rfl)