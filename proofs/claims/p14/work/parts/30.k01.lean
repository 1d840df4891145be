set_option maxHeartbeats 4000000 in
set_option maxRecDepth 100000 in
theorem k_X2_placeOfCopy (l : Launch) (hfl : l.stackTraces = false) (Z : ZT) (hZ : wD Z) (X M O : SS) (i0 : Nat) (p0 : Int32) (hi0 : i0 < 10) (r : Int32) (hf : f_X2_placeOfCopy X i0 p0 = some (r)) (sz : Nat) : vx_Met l yX2_placeOfCopy ws_X2_placeOfCopy rm_X2_placeOfCopy (va_Pc [.ref (Z.2.2 9 i0), .int p0] (cP Z (X, M, O) sz)) (cQi Z (X, M, O) (.inl r) sz) (cX Z (X, M, O) (.inl r : Int32 ⊕ String) sz) 0 0 (wA Z sz) := by
  refine vx_ofW (cc := cX2_placeOfCopy) (maxL := 3) (ret := (some .int)) (by decide) rfl ?_
  intro p e s m args below meth c s₁ B hml htab hv
  obtain ⟨hargs, hsz, hE, hP, hK⟩ := hv
  have hx := B.exec
  have hb := B.bytes
  have hr := B.returns
  have hts0 := atoms_spec (ws := ws_X2_placeOfCopy) B.pre
  have hts : ∀ w ∈ lw_all, w.before args s = true := fun w h => hts0 w (List.mem_cons_of_mem _ h)
  have hown : s.vm.findClass RX2 = some m.cls := findClass_of_methodNamed B.named
  have hlocks := B.notSynchronized
  have hout9 : ∀ (pc9 : Nat), ∀ x ∈ c.exceptionTable.toList, covers x pc9 = false := fun _ x hx9 => (htab x hx9).elim
  subst hsz
  have hS : va_S (wA Z s.heap.size) s.heap s.heap [] := va_S.rf
  have hl := lv_entry ([.ref (Z.2.2 9 i0), .int p0]) (n := 3) (Nat.le_of_ble_eq_true rfl)
  have hen : entryFrame m args 3 = entryFrame m ([.ref (Z.2.2 9 i0), .int p0] : List Value).toArray 3 := by rw [hargs]
  rw [hen, lg_entry_eq]
  generalize (lg_sl ([.ref (Z.2.2 9 i0), .int p0]) ++ List.replicate (3 - (lg_sl ([.ref (Z.2.2 9 i0), .int p0])).length) Slot.unset).toArray = ls at hl ⊢
  have hl : lv_has ls 3 [(0, .ref (Z.2.2 9 i0)), (1, .int p0)] := hl
  have hk := hf
  unfold f_X2_placeOfCopy at hk
  refine lv_iconst (v := (0 : Int32)) hx hb dX2_placeOfCopy_0 (by decide) ?_
  refine lv_istore_n (lv' := [(2, .int (0 : Int32)), (0, .ref (Z.2.2 9 i0)), (1, .int p0)]) hx hb dX2_placeOfCopy_1 rfl hl (by decide) rfl (fun ls hl => ?_)
  obtain ⟨k1, hk1, hk⟩ := gn hk
  have ex1 : ∀ (H : Heap) (locs : List Loc) (ls : Array Slot), k1 () = some (r) → wP Z (X, M, O) H → va_S (wA Z s.heap.size) s.heap H locs → lv_has ls 3 [] → W p l e (headSpec ws_X2_placeOfCopy rm_X2_placeOfCopy).room s m args below meth c H locs 0 0 (vx_MQ below (cQi Z (X, M, O) (.inl r) s.heap.size) (cX Z (X, M, O) (.inl r : Int32 ⊕ String) s.heap.size) args s 0 0 (wA Z s.heap.size)) (F0 m 28 ls []) := by
    intro  H locs ls hk hP hS hl
    subst hk1
    refine lv_iconst (v := ((-1) : Int32)) hx hb dX2_placeOfCopy_28 (by decide) ?_
    cases (show some _ = some _ from hk)
    exact we_i hx hb hr hlocks hP rfl hS dX2_placeOfCopy_29 (by decide) (by decide)
  have lp1 : ∀ (n : Nat) (v2 : Int32) (H : Heap) (locs : List Loc) (ls : Array Slot), f_X2_placeOfCopy_L2 X i0 p0 n v2 k1 = some (r) → wP Z (X, M, O) H → va_S (wA Z s.heap.size) s.heap H locs → lv_has ls 3 [(2, .int v2), (0, .ref (Z.2.2 9 i0)), (1, .int p0)] → W p l e (headSpec ws_X2_placeOfCopy rm_X2_placeOfCopy).room s m args below meth c H locs 0 0 (vx_MQ below (cQi Z (X, M, O) (.inl r) s.heap.size) (cX Z (X, M, O) (.inl r : Int32 ⊕ String) s.heap.size) args s 0 0 (wA Z s.heap.size)) (F0 m 2 ls []) := by
    intro n
    induction n with
    | zero =>
      intro v2 H locs ls hk
      rw [f_X2_placeOfCopy_L2] at hk
      exact nomatch (show none = some _ from hk)
    | succ n ih =>
      intro v2 H locs ls hk hP hS hl
      rw [f_X2_placeOfCopy_L2] at hk
      refine lv_iload_n hx hb dX2_placeOfCopy_2 rfl (lv_at hl 0 rfl) ?_
      refine lv_aload_n hx hb dX2_placeOfCopy_3 rfl (lv_at hl 1 rfl) ?_
      refine gf_RX2_21 hx hb hts hown hK hP hi0 dX2_placeOfCopy_4 ?_
      refine lv_icmp_ge (tgt := 28) hx hb dX2_placeOfCopy_7 (by decide) (fun cz3 => ?_) (fun cz3 => ?_)
      · have hk := it_t cz3 hk
        exact ex1 _ _ _ hk hP hS (lv_sub hl [] rfl)
      · have hk := it_f cz3 hk
        refine lv_aload_n hx hb dX2_placeOfCopy_10 rfl (lv_at hl 1 rfl) ?_
        refine gf_RX2_17 hx hb hts hown hK hP hi0 dX2_placeOfCopy_11 ?_
        refine lv_iload_n hx hb dX2_placeOfCopy_14 rfl (lv_at hl 0 rfl) ?_
        obtain ⟨hg4, hk⟩ := gd_s hk
        refine wa_iaload_11 hx hb hK hP hi0 hg4 dX2_placeOfCopy_15 ?_
        refine lv_iload_n hx hb dX2_placeOfCopy_16 rfl (lv_at hl 2 rfl) ?_
        refine lv_icmp_ne (tgt := 22) hx hb dX2_placeOfCopy_17 (by decide) (fun cz5 => ?_) (fun cz5 => ?_)
        · have hk := it_f cz5 hk
          refine lv_iinc (v := (v2 + (1 : Int32))) (lv' := [(2, .int (v2 + (1 : Int32))), (0, .ref (Z.2.2 9 i0)), (1, .int p0)]) hx hb dX2_placeOfCopy_22 hl (k := 0) rfl rfl (by decide) rfl (fun ls hl => ?_)
          refine lv_goto (tgt := 2) hx hb dX2_placeOfCopy_25 (by decide) ?_
          exact ih (v2 + (1 : Int32)) _ _ _ hk hP hS (lv_sub hl [0, 1, 2] rfl)
        · have hk := it_t cz5 hk
          refine lv_iload_n hx hb dX2_placeOfCopy_20 rfl (lv_at hl 0 rfl) ?_
          cases (show some _ = some _ from hk)
          exact we_i hx hb hr hlocks hP rfl hS dX2_placeOfCopy_21 (by decide) (by decide)
  exact lp1 1000 (0 : Int32) _ _ _ hk hP hS (lv_sub hl [0, 1, 2] rfl)
set_option maxHeartbeats 4000000 in
set_option maxRecDepth 100000 in
theorem k_X3_take (l : Launch) (hfl : l.stackTraces = false) (Z : ZT) (hZ : wD Z) (X M O : SS) (i0 : Nat) (i1 : Nat) (hi0 : i0 < 71) (hi1 : i1 < 71) (Xz : SS) (r : Unit) (hf : f_X3_take X i0 i1 = some (Xz, r)) (sz : Nat) : vx_Met l yX3_take ws_X3_take rm_X3_take (va_Pc [.ref (Z.2.2 1 i0), .ref (Z.2.2 1 i1)] (cP Z (X, M, O) sz)) (cQv Z (Xz, M, O) (.inl ()) sz) (cX Z (Xz, M, O) (.inl () : Unit ⊕ String) sz) 0 0 (wA Z sz) := by
  refine vx_ofW (cc := cX3_take) (maxL := 3) (ret := none) (by decide) rfl ?_
  intro p e s m args below meth c s₁ B hml htab hv
  obtain ⟨hargs, hsz, hE, hP, hK⟩ := hv
  have hx := B.exec
  have hb := B.bytes
  have hr := B.returns
  have hts0 := atoms_spec (ws := ws_X3_take) B.pre
  have hts : ∀ w ∈ lw_all, w.before args s = true := fun w h => hts0 w (List.mem_cons_of_mem _ h)
  have hown : s.vm.findClass RX3 = some m.cls := findClass_of_methodNamed B.named
  have hlocks := B.notSynchronized
  have hout9 : ∀ (pc9 : Nat), ∀ x ∈ c.exceptionTable.toList, covers x pc9 = false := fun _ x hx9 => (htab x hx9).elim
  subst hsz
  have hS : va_S (wA Z s.heap.size) s.heap s.heap [] := va_S.rf
  have hl := lv_entry ([.ref (Z.2.2 1 i0), .ref (Z.2.2 1 i1)]) (n := 3) (Nat.le_of_ble_eq_true rfl)
  have hen : entryFrame m args 3 = entryFrame m ([.ref (Z.2.2 1 i0), .ref (Z.2.2 1 i1)] : List Value).toArray 3 := by rw [hargs]
  rw [hen, lg_entry_eq]
  generalize (lg_sl ([.ref (Z.2.2 1 i0), .ref (Z.2.2 1 i1)]) ++ List.replicate (3 - (lg_sl ([.ref (Z.2.2 1 i0), .ref (Z.2.2 1 i1)])).length) Slot.unset).toArray = ls at hl ⊢
  have hl : lv_has ls 3 [(0, .ref (Z.2.2 1 i0)), (1, .ref (Z.2.2 1 i1))] := hl
  have hk := hf
  unfold f_X3_take at hk
  refine lv_aload_n hx hb dX3_take_0 rfl (lv_at hl 0 rfl) ?_
  refine lv_aload_n hx hb dX3_take_1 rfl (lv_at hl 1 rfl) ?_
  refine gf_RX3_19 hx hb hts hown hK hP hi1 dX3_take_2 ?_
  obtain ⟨X1, eX1, hk⟩ := lq_s hk
  refine pf_RX3_19 hx hb hts hown hZ hK hP hS hi0 dX3_take_5 (fun H locs hP hS => ?_)
  rw [← eX1] at hP
  refine lv_iconst (v := (0 : Int32)) hx hb dX3_take_8 (by decide) ?_
  refine lv_istore_n (lv' := [(2, .int (0 : Int32)), (0, .ref (Z.2.2 1 i0)), (1, .ref (Z.2.2 1 i1))]) hx hb dX3_take_9 rfl hl (by decide) rfl (fun ls hl => ?_)
  obtain ⟨k2, hk2, hk⟩ := gn hk
  have ex2 : ∀ (X3 : SS) (H : Heap) (locs : List Loc) (ls : Array Slot), k2 X3 = some (Xz, r) → wP Z (X3, M, O) H → va_S (wA Z s.heap.size) s.heap H locs → lv_has ls 3 [] → W p l e (headSpec ws_X3_take rm_X3_take).room s m args below meth c H locs 0 0 (vx_MQ below (cQv Z (Xz, M, O) (.inl ()) s.heap.size) (cX Z (Xz, M, O) (.inl () : Unit ⊕ String) s.heap.size) args s 0 0 (wA Z s.heap.size)) (F0 m 48 ls []) := by
    intro X3 H locs ls hk hP hS hl
    subst hk2
    cases (show some _ = some _ from hk)
    exact we_v hx hb hr hlocks hP rfl hS dX3_take_48 (by decide) (by decide)
  have lp2 : ∀ (n : Nat) (v4 : Int32) (X5 : SS) (H : Heap) (locs : List Loc) (ls : Array Slot), f_X3_take_L10 i0 i1 n v4 X5 k2 = some (Xz, r) → wP Z (X5, M, O) H → va_S (wA Z s.heap.size) s.heap H locs → lv_has ls 3 [(2, .int v4), (0, .ref (Z.2.2 1 i0)), (1, .ref (Z.2.2 1 i1))] → W p l e (headSpec ws_X3_take rm_X3_take).room s m args below meth c H locs 0 0 (vx_MQ below (cQv Z (Xz, M, O) (.inl ()) s.heap.size) (cX Z (Xz, M, O) (.inl () : Unit ⊕ String) s.heap.size) args s 0 0 (wA Z s.heap.size)) (F0 m 10 ls []) := by
    intro n
    induction n with
    | zero =>
      intro v4 X5 H locs ls hk
      rw [f_X3_take_L10] at hk
      exact nomatch (show none = some _ from hk)
    | succ n ih =>
      intro v4 X5 H locs ls hk hP hS hl
      rw [f_X3_take_L10] at hk
      refine lv_iload_n hx hb dX3_take_10 rfl (lv_at hl 0 rfl) ?_
      refine lv_aload_n hx hb dX3_take_11 rfl (lv_at hl 1 rfl) ?_
      refine gf_RX3_19 hx hb hts hown hK hP hi0 dX3_take_12 ?_
      refine lv_icmp_ge (tgt := 48) hx hb dX3_take_15 (by decide) (fun cz6 => ?_) (fun cz6 => ?_)
      · have hk := it_t cz6 hk
        exact ex2 X5 _ _ _ hk hP hS (lv_sub hl [] rfl)
      · have hk := it_f cz6 hk
        refine lv_aload_n hx hb dX3_take_18 rfl (lv_at hl 1 rfl) ?_
        refine gf_RX3_9 hx hb hts hown hK hP hi0 dX3_take_19 ?_
        refine lv_iload_n hx hb dX3_take_22 rfl (lv_at hl 0 rfl) ?_
        refine lv_aload_n hx hb dX3_take_23 rfl (lv_at hl 2 rfl) ?_
        refine gf_RX3_9 hx hb hts hown hK hP hi1 dX3_take_24 ?_
        refine lv_iload_n hx hb dX3_take_27 rfl (lv_at hl 0 rfl) ?_
        obtain ⟨hg7, hk⟩ := gd_s hk
        refine wa_caload_2 hx hb hK hP hi1 hg7 dX3_take_28 ?_
        obtain ⟨hg8, hk⟩ := gd_s hk
        obtain ⟨X9, eX9, hk⟩ := lq_s hk
        refine wa_castore_2 hx hb hZ hK hP hS hi0 hg8 dX3_take_29 (fun H locs hP hS => ?_)
        rw [← eX9] at hP
        refine lv_aload_n hx hb dX3_take_30 rfl (lv_at hl 1 rfl) ?_
        refine gf_RX3_15 hx hb hts hown hK hP hi0 dX3_take_31 ?_
        refine lv_iload_n hx hb dX3_take_34 rfl (lv_at hl 0 rfl) ?_
        refine lv_aload_n hx hb dX3_take_35 rfl (lv_at hl 2 rfl) ?_
        refine gf_RX3_15 hx hb hts hown hK hP hi1 dX3_take_36 ?_
        refine lv_iload_n hx hb dX3_take_39 rfl (lv_at hl 0 rfl) ?_
        obtain ⟨hg10, hk⟩ := gd_s hk
        refine wa_iaload_3 hx hb hK hP hi1 hg10 dX3_take_40 ?_
        obtain ⟨hg11, hk⟩ := gd_s hk
        obtain ⟨X12, eX12, hk⟩ := lq_s hk
        refine wa_iastore_3 hx hb hZ hK hP hS hi0 hg11 dX3_take_41 (fun H locs hP hS => ?_)
        rw [← eX12] at hP
        refine lv_iinc (v := (v4 + (1 : Int32))) (lv' := [(2, .int (v4 + (1 : Int32))), (0, .ref (Z.2.2 1 i0)), (1, .ref (Z.2.2 1 i1))]) hx hb dX3_take_42 hl (k := 0) rfl rfl (by decide) rfl (fun ls hl => ?_)
        refine lv_goto (tgt := 10) hx hb dX3_take_45 (by decide) ?_
        exact ih (v4 + (1 : Int32)) X12 _ _ _ hk hP hS (lv_sub hl [0, 1, 2] rfl)
  exact lp2 1000 (0 : Int32) X1 _ _ _ hk hP hS (lv_sub hl [0, 1, 2] rfl)
set_option maxHeartbeats 4000000 in
set_option maxRecDepth 100000 in
theorem k_X2_keepCopy (l : Launch) (hfl : l.stackTraces = false) (Z : ZT) (hZ : wD Z) (X M O : SS) (i0 : Nat) (p0 : Int32) (i2 : Nat) (hi0 : i0 < 10) (hi2 : i2 < 71) (Xz : SS) (r : Unit) (hf : f_X2_keepCopy X i0 p0 i2 = some (Xz, r)) (sz : Nat) : vx_Met l yX2_keepCopy ws_X2_keepCopy rm_X2_keepCopy (va_Pc [.ref (Z.2.2 9 i0), .int p0, .ref (Z.2.2 1 i2)] (cP Z (X, M, O) sz)) (cQv Z (Xz, M, O) (.inl ()) sz) (cX Z (Xz, M, O) (.inl () : Unit ⊕ String) sz) 0 0 (wA Z sz) := by
  refine vx_ofW (cc := cX2_keepCopy) (maxL := 6) (ret := none) (by decide) rfl ?_
  intro p e s m args below meth c s₁ B hml htab hv
  obtain ⟨hargs, hsz, hE, hP, hK⟩ := hv
  have hx := B.exec
  have hb := B.bytes
  have hr := B.returns
  have hts0 := atoms_spec (ws := ws_X2_keepCopy) B.pre
  have hts : ∀ w ∈ lw_all, w.before args s = true := fun w h => hts0 w (List.mem_cons_of_mem _ h)
  have hown : s.vm.findClass RX2 = some m.cls := findClass_of_methodNamed B.named
  have hlocks := B.notSynchronized
  have hout9 : ∀ (pc9 : Nat), ∀ x ∈ c.exceptionTable.toList, covers x pc9 = false := fun _ x hx9 => (htab x hx9).elim
  subst hsz
  have hS : va_S (wA Z s.heap.size) s.heap s.heap [] := va_S.rf
  have hl := lv_entry ([.ref (Z.2.2 9 i0), .int p0, .ref (Z.2.2 1 i2)]) (n := 6) (Nat.le_of_ble_eq_true rfl)
  have hen : entryFrame m args 6 = entryFrame m ([.ref (Z.2.2 9 i0), .int p0, .ref (Z.2.2 1 i2)] : List Value).toArray 6 := by rw [hargs]
  rw [hen, lg_entry_eq]
  generalize (lg_sl ([.ref (Z.2.2 9 i0), .int p0, .ref (Z.2.2 1 i2)]) ++ List.replicate (6 - (lg_sl ([.ref (Z.2.2 9 i0), .int p0, .ref (Z.2.2 1 i2)])).length) Slot.unset).toArray = ls at hl ⊢
  have hl : lv_has ls 6 [(0, .ref (Z.2.2 9 i0)), (1, .int p0), (2, .ref (Z.2.2 1 i2))] := hl
  have hk := hf
  unfold f_X2_keepCopy at hk
  refine lv_aload_n hx hb dX2_keepCopy_0 rfl (lv_at hl 0 rfl) ?_
  refine lv_iload_n hx hb dX2_keepCopy_1 rfl (lv_at hl 1 rfl) ?_
  obtain ⟨v1, hf2, hk⟩ := b0_s hk
  refine wc_iV0 (rest := []) (As := [.int p0]) ⟨hx, hb, hml, hown, hts⟩ (fun sz => k_X2_placeOfCopy l hfl Z hZ X M O i0 p0 hi0 v1 hf2 sz) (cw_RX2_29 (args := args) (s := s) hts (Nat.le_of_ble_eq_true rfl) (Nat.le_of_ble_eq_true rfl)) hE hP hK hS (rv_9 hK hP hi0) rfl hl.1 rfl (Nat.le_of_ble_eq_true rfl) dX2_keepCopy_2 ⟨Nat.le_of_ble_eq_true rfl, Nat.le_of_ble_eq_true rfl⟩ (fun H locs hP hS => ?_)
  refine lv_istore_n (lv' := [(3, .int v1), (0, .ref (Z.2.2 9 i0)), (1, .int p0), (2, .ref (Z.2.2 1 i2))]) hx hb dX2_keepCopy_5 rfl hl (by decide) rfl (fun ls hl => ?_)
  refine lv_iload_n hx hb dX2_keepCopy_6 rfl (lv_at hl 0 rfl) ?_
  refine lv_iconst (v := ((-1) : Int32)) hx hb dX2_keepCopy_7 (by decide) ?_
  have jn5 : ∀ (v3 : Int32) (X4 : SS) (H : Heap) (locs : List Loc) (ls : Array Slot), f_X2_keepCopy_J34 i0 p0 i2 v3 X4 = some (Xz, r) → wP Z (X4, M, O) H → va_S (wA Z s.heap.size) s.heap H locs → lv_has ls 6 [(3, .int v3), (0, .ref (Z.2.2 9 i0)), (1, .int p0), (2, .ref (Z.2.2 1 i2))] → W p l e (headSpec ws_X2_keepCopy rm_X2_keepCopy).room s m args below meth c H locs 0 0 (vx_MQ below (cQv Z (Xz, M, O) (.inl ()) s.heap.size) (cX Z (Xz, M, O) (.inl () : Unit ⊕ String) s.heap.size) args s 0 0 (wA Z s.heap.size)) (F0 m 34 ls []) := by
    intro v3 X4 H locs ls hk hP hS hl
    unfold f_X2_keepCopy_J34 at hk
    refine lv_iload_n hx hb dX2_keepCopy_34 rfl (lv_at hl 0 rfl) ?_
    refine lv_iconst (v := ((-1) : Int32)) hx hb dX2_keepCopy_35 (by decide) ?_
    have jn7 : ∀ (v6 : Int32) (H : Heap) (locs : List Loc) (ls : Array Slot), f_X2_keepCopy_J41 X4 i0 p0 i2 v6 = some (Xz, r) → wP Z (X4, M, O) H → va_S (wA Z s.heap.size) s.heap H locs → lv_has ls 6 [(3, .int v6), (0, .ref (Z.2.2 9 i0)), (1, .int p0), (2, .ref (Z.2.2 1 i2))] → W p l e (headSpec ws_X2_keepCopy rm_X2_keepCopy).room s m args below meth c H locs 0 0 (vx_MQ below (cQv Z (Xz, M, O) (.inl ()) s.heap.size) (cX Z (Xz, M, O) (.inl () : Unit ⊕ String) s.heap.size) args s 0 0 (wA Z s.heap.size)) (F0 m 41 ls []) := by
      intro v6 H locs ls hk hP hS hl
      unfold f_X2_keepCopy_J41 at hk
      refine lv_aload_n hx hb dX2_keepCopy_41 rfl (lv_at hl 1 rfl) ?_
      refine gf_RX2_11 hx hb hts hown hK hP hi0 dX2_keepCopy_42 ?_
      refine lv_iload_n hx hb dX2_keepCopy_45 rfl (lv_at hl 0 rfl) ?_
      obtain ⟨hg8, hk⟩ := gd_s hk
      refine wa_aaload_10 hx hb hK hP hi0 hg8 dX2_keepCopy_46 ?_
      obtain ⟨hg9, hk⟩ := gd_s hk
      refine lv_astore (lv' := [(4, .ref (Z.2.2 1 (X4.2.2.1 10 i0 (v6).toNatClampNeg))), (3, .int v6), (0, .ref (Z.2.2 9 i0)), (1, .int p0), (2, .ref (Z.2.2 1 i2))]) hx hb dX2_keepCopy_47 hl (by decide) rfl (fun ls hl => ?_)
      refine lv_iload_n hx hb dX2_keepCopy_49 rfl (lv_at hl 1 rfl) ?_
      refine lv_istore (lv' := [(5, .int v6), (4, .ref (Z.2.2 1 (X4.2.2.1 10 i0 (v6).toNatClampNeg))), (3, .int v6), (0, .ref (Z.2.2 9 i0)), (1, .int p0), (2, .ref (Z.2.2 1 i2))]) hx hb dX2_keepCopy_50 hl (by decide) rfl (fun ls hl => ?_)
      obtain ⟨k10, hk10, hk⟩ := gn hk
      have ex10 : ∀ (X11 : SS) (H : Heap) (locs : List Loc) (ls : Array Slot), k10 X11 = some (Xz, r) → wP Z (X11, M, O) H → va_S (wA Z s.heap.size) s.heap H locs → lv_has ls 6 [(4, .ref (Z.2.2 1 (X4.2.2.1 10 i0 (v6).toNatClampNeg))), (0, .ref (Z.2.2 9 i0)), (1, .int p0), (2, .ref (Z.2.2 1 i2))] → W p l e (headSpec ws_X2_keepCopy rm_X2_keepCopy).room s m args below meth c H locs 0 0 (vx_MQ below (cQv Z (Xz, M, O) (.inl ()) s.heap.size) (cX Z (Xz, M, O) (.inl () : Unit ⊕ String) s.heap.size) args s 0 0 (wA Z s.heap.size)) (F0 m 101 ls []) := by
        intro X11 H locs ls hk hP hS hl
        subst hk10
        refine lv_aload_n hx hb dX2_keepCopy_101 rfl (lv_at hl 1 rfl) ?_
        refine gf_RX2_21 hx hb hts hown hK hP hi0 dX2_keepCopy_102 ?_
        refine lv_iconst (v := (1 : Int32)) hx hb dX2_keepCopy_105 (by decide) ?_
        refine lv_isub hx hb dX2_keepCopy_106 ?_
        obtain ⟨v14, ev14, hk⟩ := lq_s hk
        refine W.eq (g2 := F0 m 107 ls [.int v14]) (by rw [ev14]) ?_
        refine lv_istore (lv' := [(5, .int v14), (4, .ref (Z.2.2 1 (X4.2.2.1 10 i0 (v6).toNatClampNeg))), (0, .ref (Z.2.2 9 i0)), (1, .int p0), (2, .ref (Z.2.2 1 i2))]) hx hb dX2_keepCopy_107 hl (by decide) rfl (fun ls hl => ?_)
        refine lv_aload_n hx hb dX2_keepCopy_109 rfl (lv_at hl 2 rfl) ?_
        refine gf_RX2_11 hx hb hts hown hK hP hi0 dX2_keepCopy_110 ?_
        refine lv_iload hx hb dX2_keepCopy_113 (lv_at hl 0 rfl) ?_
        refine lv_aload hx hb dX2_keepCopy_115 (lv_at hl 1 rfl) ?_
        obtain ⟨hg15, hk⟩ := gd_s hk
        obtain ⟨X16, eX16, hk⟩ := lq_s hk
        refine wa_aastore_10 hx hb hZ hK hP hS hi0 hg9 hg15 dX2_keepCopy_117 (fun H locs hP hS => ?_)
        rw [← eX16] at hP
        refine lv_aload_n hx hb dX2_keepCopy_118 rfl (lv_at hl 2 rfl) ?_
        refine gf_RX2_17 hx hb hts hown hK hP hi0 dX2_keepCopy_119 ?_
        refine lv_iload hx hb dX2_keepCopy_122 (lv_at hl 0 rfl) ?_
        refine lv_iload_n hx hb dX2_keepCopy_124 rfl (lv_at hl 3 rfl) ?_
        obtain ⟨hg17, hk⟩ := gd_s hk
        obtain ⟨X18, eX18, hk⟩ := lq_s hk
        refine wa_iastore_11 hx hb hZ hK hP hS hi0 hg17 dX2_keepCopy_125 (fun H locs hP hS => ?_)
        rw [← eX18] at hP
        refine lv_aload hx hb dX2_keepCopy_126 (lv_at hl 1 rfl) ?_
        refine lv_aload_n hx hb dX2_keepCopy_128 rfl (lv_at hl 4 rfl) ?_
        obtain ⟨X20, v19, hf21, hk⟩ := b1_s hk
        refine wc_vV0 (rest := []) (As := [.ref (Z.2.2 1 i2)]) ⟨hx, hb, hml, hown, hts⟩ (fun sz => k_X3_take l hfl Z hZ X18 M O (X4.2.2.1 10 i0 (v6).toNatClampNeg) i2 hg9 hi2 X20 v19 hf21 sz) (cw_RX2_33 (args := args) (s := s) hts (Nat.le_of_ble_eq_true rfl) (Nat.le_of_ble_eq_true rfl)) hE hP hK hS (rv_1 hK hP hg9) rfl hl.1 rfl (Nat.le_of_ble_eq_true rfl) dX2_keepCopy_129 ⟨Nat.le_of_ble_eq_true rfl, Nat.le_of_ble_eq_true rfl⟩ (fun H locs hP hS => ?_)
        cases (show some _ = some _ from hk)
        exact we_v hx hb hr hlocks hP rfl hS dX2_keepCopy_132 (by decide) (by decide)
      have lp10 : ∀ (n : Nat) (v12 : Int32) (X13 : SS) (H : Heap) (locs : List Loc) (ls : Array Slot), f_X2_keepCopy_L52 i0 n v12 X13 k10 = some (Xz, r) → wP Z (X13, M, O) H → va_S (wA Z s.heap.size) s.heap H locs → lv_has ls 6 [(5, .int v12), (4, .ref (Z.2.2 1 (X4.2.2.1 10 i0 (v6).toNatClampNeg))), (0, .ref (Z.2.2 9 i0)), (1, .int p0), (2, .ref (Z.2.2 1 i2))] → W p l e (headSpec ws_X2_keepCopy rm_X2_keepCopy).room s m args below meth c H locs 0 0 (vx_MQ below (cQv Z (Xz, M, O) (.inl ()) s.heap.size) (cX Z (Xz, M, O) (.inl () : Unit ⊕ String) s.heap.size) args s 0 0 (wA Z s.heap.size)) (F0 m 52 ls []) := by
        intro n
        induction n with
        | zero =>
          intro v12 X13 H locs ls hk
          rw [f_X2_keepCopy_L52] at hk
          exact nomatch (show none = some _ from hk)
        | succ n ih =>
          intro v12 X13 H locs ls hk hP hS hl
          rw [f_X2_keepCopy_L52] at hk
          refine lv_iload hx hb dX2_keepCopy_52 (lv_at hl 0 rfl) ?_
          refine lv_iconst (v := (1 : Int32)) hx hb dX2_keepCopy_54 (by decide) ?_
          refine lv_iadd hx hb dX2_keepCopy_55 ?_
          refine lv_aload_n hx hb dX2_keepCopy_56 rfl (lv_at hl 2 rfl) ?_
          refine gf_RX2_21 hx hb hts hown hK hP hi0 dX2_keepCopy_57 ?_
          refine lv_icmp_ge (tgt := 101) hx hb dX2_keepCopy_60 (by decide) (fun cz22 => ?_) (fun cz22 => ?_)
          · have hk := it_t cz22 hk
            exact ex10 X13 _ _ _ hk hP hS (lv_sub hl [1, 2, 3, 4] rfl)
          · have hk := it_f cz22 hk
            refine lv_aload_n hx hb dX2_keepCopy_63 rfl (lv_at hl 2 rfl) ?_
            refine gf_RX2_11 hx hb hts hown hK hP hi0 dX2_keepCopy_64 ?_
            refine lv_iload hx hb dX2_keepCopy_67 (lv_at hl 0 rfl) ?_
            refine lv_aload_n hx hb dX2_keepCopy_69 rfl (lv_at hl 2 rfl) ?_
            refine gf_RX2_11 hx hb hts hown hK hP hi0 dX2_keepCopy_70 ?_
            refine lv_iload hx hb dX2_keepCopy_73 (lv_at hl 0 rfl) ?_
            refine lv_iconst (v := (1 : Int32)) hx hb dX2_keepCopy_75 (by decide) ?_
            refine lv_iadd hx hb dX2_keepCopy_76 ?_
            obtain ⟨hg23, hk⟩ := gd_s hk
            refine wa_aaload_10 hx hb hK hP hi0 hg23 dX2_keepCopy_77 ?_
            obtain ⟨hg24, hk⟩ := gd_s hk
            obtain ⟨hg25, hk⟩ := gd_s hk
            obtain ⟨X26, eX26, hk⟩ := lq_s hk
            refine wa_aastore_10 hx hb hZ hK hP hS hi0 hg24 hg25 dX2_keepCopy_78 (fun H locs hP hS => ?_)
            rw [← eX26] at hP
            refine lv_aload_n hx hb dX2_keepCopy_79 rfl (lv_at hl 2 rfl) ?_
            refine gf_RX2_17 hx hb hts hown hK hP hi0 dX2_keepCopy_80 ?_
            refine lv_iload hx hb dX2_keepCopy_83 (lv_at hl 0 rfl) ?_
            refine lv_aload_n hx hb dX2_keepCopy_85 rfl (lv_at hl 2 rfl) ?_
            refine gf_RX2_17 hx hb hts hown hK hP hi0 dX2_keepCopy_86 ?_
            refine lv_iload hx hb dX2_keepCopy_89 (lv_at hl 0 rfl) ?_
            refine lv_iconst (v := (1 : Int32)) hx hb dX2_keepCopy_91 (by decide) ?_
            refine lv_iadd hx hb dX2_keepCopy_92 ?_
            obtain ⟨hg27, hk⟩ := gd_s hk
            refine wa_iaload_11 hx hb hK hP hi0 hg27 dX2_keepCopy_93 ?_
            obtain ⟨hg28, hk⟩ := gd_s hk
            obtain ⟨X29, eX29, hk⟩ := lq_s hk
            refine wa_iastore_11 hx hb hZ hK hP hS hi0 hg28 dX2_keepCopy_94 (fun H locs hP hS => ?_)
            rw [← eX29] at hP
            refine lv_iinc (v := (v12 + (1 : Int32))) (lv' := [(5, .int (v12 + (1 : Int32))), (4, .ref (Z.2.2 1 (X4.2.2.1 10 i0 (v6).toNatClampNeg))), (0, .ref (Z.2.2 9 i0)), (1, .int p0), (2, .ref (Z.2.2 1 i2))]) hx hb dX2_keepCopy_95 hl (k := 0) rfl rfl (by decide) rfl (fun ls hl => ?_)
            refine lv_goto (tgt := 52) hx hb dX2_keepCopy_98 (by decide) ?_
            exact ih (v12 + (1 : Int32)) X29 _ _ _ hk hP hS (lv_sub hl [0, 1, 2, 3, 4] rfl)
      exact lp10 1000 v6 X4 _ _ _ hk hP hS (lv_sub hl [0, 1, 3, 4, 5] rfl)
    refine lv_icmp_ne (tgt := 41) hx hb dX2_keepCopy_36 (by decide) (fun cz30 => ?_) (fun cz30 => ?_)
    · have hk := it_f cz30 hk
      exact jn7 v3 _ _ _ hk hP hS (lv_sub hl [0, 1, 2, 3] rfl)
    · have hk := it_t cz30 hk
      refine lv_iconst (v := (0 : Int32)) hx hb dX2_keepCopy_39 (by decide) ?_
      refine lv_istore_n (lv' := [(3, .int (0 : Int32)), (0, .ref (Z.2.2 9 i0)), (1, .int p0), (2, .ref (Z.2.2 1 i2))]) hx hb dX2_keepCopy_40 rfl hl (by decide) rfl (fun ls hl => ?_)
      exact jn7 (0 : Int32) _ _ _ hk hP hS (lv_sub hl [0, 1, 2, 3] rfl)
  refine lv_icmp_ne (tgt := 34) hx hb dX2_keepCopy_8 (by decide) (fun cz31 => ?_) (fun cz31 => ?_)
  · have hk := it_f cz31 hk
    exact jn5 v1 X _ _ _ hk hP hS (lv_sub hl [0, 1, 2, 3] rfl)
  · have hk := it_t cz31 hk
    refine lv_aload_n hx hb dX2_keepCopy_11 rfl (lv_at hl 1 rfl) ?_
    refine gf_RX2_21 hx hb hts hown hK hP hi0 dX2_keepCopy_12 ?_
    refine lv_iconst (v := (3 : Int32)) hx hb dX2_keepCopy_15 (by decide) ?_
    refine lv_icmp_ge (tgt := 34) hx hb dX2_keepCopy_16 (by decide) (fun cz32 => ?_) (fun cz32 => ?_)
    · have hk := it_t cz32 hk
      exact jn5 v1 X _ _ _ hk hP hS (lv_sub hl [0, 1, 2, 3] rfl)
    · have hk := it_f cz32 hk
      refine lv_aload_n hx hb dX2_keepCopy_19 rfl (lv_at hl 1 rfl) ?_
      refine gf_RX2_21 hx hb hts hown hK hP hi0 dX2_keepCopy_20 ?_
      obtain ⟨v33, ev33, hk⟩ := lq_s hk
      refine W.eq (g2 := F0 m 23 ls [.int v33]) (by rw [ev33]) ?_
      refine lv_istore_n (lv' := [(3, .int v33), (0, .ref (Z.2.2 9 i0)), (1, .int p0), (2, .ref (Z.2.2 1 i2))]) hx hb dX2_keepCopy_23 rfl hl (by decide) rfl (fun ls hl => ?_)
      refine lv_aload_n hx hb dX2_keepCopy_24 rfl (lv_at hl 1 rfl) ?_
      refine lv_dup hx hb dX2_keepCopy_25 rfl ?_
      refine gf_RX2_21 hx hb hts hown hK hP hi0 dX2_keepCopy_26 ?_
      refine lv_iconst (v := (1 : Int32)) hx hb dX2_keepCopy_29 (by decide) ?_
      refine lv_iadd hx hb dX2_keepCopy_30 ?_
      obtain ⟨X34, eX34, hk⟩ := lq_s hk
      refine pf_RX2_21 hx hb hts hown hZ hK hP hS hi0 dX2_keepCopy_31 (fun H locs hP hS => ?_)
      rw [← eX34] at hP
      exact jn5 v33 X34 _ _ _ hk hP hS (lv_sub hl [0, 1, 2, 3] rfl)
set_option maxHeartbeats 4000000 in
set_option maxRecDepth 100000 in
theorem k_X3_append (l : Launch) (hfl : l.stackTraces = false) (Z : ZT) (hZ : wD Z) (X M O : SS) (i0 : Nat) (p0 : Int32) (p1 : Int32) (hi0 : i0 < 71) (Xz : SS) (r : Unit) (hf : f_X3_append X i0 p0 p1 = some (Xz, r)) (sz : Nat) : vx_Met l yX3_append ws_X3_append rm_X3_append (va_Pc [.ref (Z.2.2 1 i0), .int p0, .int p1] (cP Z (X, M, O) sz)) (cQv Z (Xz, M, O) (.inl ()) sz) (cX Z (Xz, M, O) (.inl () : Unit ⊕ String) sz) 0 0 (wA Z sz) := by
  refine vx_ofW (cc := cX3_append) (maxL := 3) (ret := none) (by decide) rfl ?_
  intro p e s m args below meth c s₁ B hml htab hv
  obtain ⟨hargs, hsz, hE, hP, hK⟩ := hv
  have hx := B.exec
  have hb := B.bytes
  have hr := B.returns
  have hts0 := atoms_spec (ws := ws_X3_append) B.pre
  have hts : ∀ w ∈ lw_all, w.before args s = true := fun w h => hts0 w (List.mem_cons_of_mem _ h)
  have hown : s.vm.findClass RX3 = some m.cls := findClass_of_methodNamed B.named
  have hlocks := B.notSynchronized
  have hout9 : ∀ (pc9 : Nat), ∀ x ∈ c.exceptionTable.toList, covers x pc9 = false := fun _ x hx9 => (htab x hx9).elim
  subst hsz
  have hS : va_S (wA Z s.heap.size) s.heap s.heap [] := va_S.rf
  have hl := lv_entry ([.ref (Z.2.2 1 i0), .int p0, .int p1]) (n := 3) (Nat.le_of_ble_eq_true rfl)
  have hen : entryFrame m args 3 = entryFrame m ([.ref (Z.2.2 1 i0), .int p0, .int p1] : List Value).toArray 3 := by rw [hargs]
  rw [hen, lg_entry_eq]
  generalize (lg_sl ([.ref (Z.2.2 1 i0), .int p0, .int p1]) ++ List.replicate (3 - (lg_sl ([.ref (Z.2.2 1 i0), .int p0, .int p1])).length) Slot.unset).toArray = ls at hl ⊢
  have hl : lv_has ls 3 [(0, .ref (Z.2.2 1 i0)), (1, .int p0), (2, .int p1)] := hl
  have hk := hf
  unfold f_X3_append at hk
  refine lv_aload_n hx hb dX3_append_0 rfl (lv_at hl 0 rfl) ?_
  refine gf_RX3_19 hx hb hts hown hK hP hi0 dX3_append_1 ?_
  refine lv_bipush (v := (24 : Int32)) hx hb dX3_append_4 (by decide) ?_
  refine lv_icmp_ge (tgt := 39) hx hb dX3_append_6 (by decide) (fun cz1 => ?_) (fun cz1 => ?_)
  · have hk := it_t cz1 hk
    cases (show some _ = some _ from hk)
    exact we_v hx hb hr hlocks hP rfl hS dX3_append_39 (by decide) (by decide)
  · have hk := it_f cz1 hk
    refine lv_aload_n hx hb dX3_append_9 rfl (lv_at hl 0 rfl) ?_
    refine gf_RX3_9 hx hb hts hown hK hP hi0 dX3_append_10 ?_
    refine lv_aload_n hx hb dX3_append_13 rfl (lv_at hl 0 rfl) ?_
    refine gf_RX3_19 hx hb hts hown hK hP hi0 dX3_append_14 ?_
    refine lv_iload_n hx hb dX3_append_17 rfl (lv_at hl 1 rfl) ?_
    obtain ⟨hg2, hk⟩ := gd_s hk
    obtain ⟨X3, eX3, hk⟩ := lq_s hk
    refine wa_castore_2 hx hb hZ hK hP hS hi0 hg2 dX3_append_18 (fun H locs hP hS => ?_)
    rw [← eX3] at hP
    refine lv_aload_n hx hb dX3_append_19 rfl (lv_at hl 0 rfl) ?_
    refine gf_RX3_15 hx hb hts hown hK hP hi0 dX3_append_20 ?_
    refine lv_aload_n hx hb dX3_append_23 rfl (lv_at hl 0 rfl) ?_
    refine gf_RX3_19 hx hb hts hown hK hP hi0 dX3_append_24 ?_
    refine lv_iload_n hx hb dX3_append_27 rfl (lv_at hl 2 rfl) ?_
    obtain ⟨hg4, hk⟩ := gd_s hk
    obtain ⟨X5, eX5, hk⟩ := lq_s hk
    refine wa_iastore_3 hx hb hZ hK hP hS hi0 hg4 dX3_append_28 (fun H locs hP hS => ?_)
    rw [← eX5] at hP
    refine lv_aload_n hx hb dX3_append_29 rfl (lv_at hl 0 rfl) ?_
    refine lv_dup hx hb dX3_append_30 rfl ?_
    refine gf_RX3_19 hx hb hts hown hK hP hi0 dX3_append_31 ?_
    refine lv_iconst (v := (1 : Int32)) hx hb dX3_append_34 (by decide) ?_
    refine lv_iadd hx hb dX3_append_35 ?_
    obtain ⟨X6, eX6, hk⟩ := lq_s hk
    refine pf_RX3_19 hx hb hts hown hZ hK hP hS hi0 dX3_append_36 (fun H locs hP hS => ?_)
    rw [← eX6] at hP
    cases (show some _ = some _ from hk)
    exact we_v hx hb hr hlocks hP rfl hS dX3_append_39 (by decide) (by decide)
set_option maxHeartbeats 4000000 in
set_option maxRecDepth 100000 in
theorem k_X3_erase (l : Launch) (hfl : l.stackTraces = false) (Z : ZT) (hZ : wD Z) (X M O : SS) (i0 : Nat) (hi0 : i0 < 71) (Xz : SS) (r : Unit) (hf : f_X3_erase X i0 = some (Xz, r)) (sz : Nat) : vx_Met l yX3_erase ws_X3_erase rm_X3_erase (va_Pc [.ref (Z.2.2 1 i0)] (cP Z (X, M, O) sz)) (cQv Z (Xz, M, O) (.inl ()) sz) (cX Z (Xz, M, O) (.inl () : Unit ⊕ String) sz) 0 0 (wA Z sz) := by
  refine vx_ofW (cc := cX3_erase) (maxL := 1) (ret := none) (by decide) rfl ?_
  intro p e s m args below meth c s₁ B hml htab hv
  obtain ⟨hargs, hsz, hE, hP, hK⟩ := hv
  have hx := B.exec
  have hb := B.bytes
  have hr := B.returns
  have hts0 := atoms_spec (ws := ws_X3_erase) B.pre
  have hts : ∀ w ∈ lw_all, w.before args s = true := fun w h => hts0 w (List.mem_cons_of_mem _ h)
  have hown : s.vm.findClass RX3 = some m.cls := findClass_of_methodNamed B.named
  have hlocks := B.notSynchronized
  have hout9 : ∀ (pc9 : Nat), ∀ x ∈ c.exceptionTable.toList, covers x pc9 = false := fun _ x hx9 => (htab x hx9).elim
  subst hsz
  have hS : va_S (wA Z s.heap.size) s.heap s.heap [] := va_S.rf
  have hl := lv_entry ([.ref (Z.2.2 1 i0)]) (n := 1) (Nat.le_of_ble_eq_true rfl)
  have hen : entryFrame m args 1 = entryFrame m ([.ref (Z.2.2 1 i0)] : List Value).toArray 1 := by rw [hargs]
  rw [hen, lg_entry_eq]
  generalize (lg_sl ([.ref (Z.2.2 1 i0)]) ++ List.replicate (1 - (lg_sl ([.ref (Z.2.2 1 i0)])).length) Slot.unset).toArray = ls at hl ⊢
  have hl : lv_has ls 1 [(0, .ref (Z.2.2 1 i0))] := hl
  have hk := hf
  unfold f_X3_erase at hk
  refine lv_aload_n hx hb dX3_erase_0 rfl (lv_at hl 0 rfl) ?_
  refine lv_iconst (v := (0 : Int32)) hx hb dX3_erase_1 (by decide) ?_
  obtain ⟨X1, eX1, hk⟩ := lq_s hk
  refine pf_RX3_19 hx hb hts hown hZ hK hP hS hi0 dX3_erase_2 (fun H locs hP hS => ?_)
  rw [← eX1] at hP
  cases (show some _ = some _ from hk)
  exact we_v hx hb hr hlocks hP rfl hS dX3_erase_5 (by decide) (by decide)
set_option maxHeartbeats 4000000 in
set_option maxRecDepth 100000 in
theorem k_X3_isWhole (l : Launch) (hfl : l.stackTraces = false) (Z : ZT) (hZ : wD Z) (X M O : SS) (i0 : Nat) (hi0 : i0 < 71) (r : Int32) (hf : f_X3_isWhole X i0 = some (r)) (sz : Nat) : vx_Met l yX3_isWhole ws_X3_isWhole rm_X3_isWhole (va_Pc [.ref (Z.2.2 1 i0)] (cP Z (X, M, O) sz)) (cQi Z (X, M, O) (.inl r) sz) (cX Z (X, M, O) (.inl r : Int32 ⊕ String) sz) 0 0 (wA Z sz) := by
  refine vx_ofW (cc := cX3_isWhole) (maxL := 3) (ret := (some .boolean)) (by decide) rfl ?_
  intro p e s m args below meth c s₁ B hml htab hv
  obtain ⟨hargs, hsz, hE, hP, hK⟩ := hv
  have hx := B.exec
  have hb := B.bytes
  have hr := B.returns
  have hts0 := atoms_spec (ws := ws_X3_isWhole) B.pre
  have hts : ∀ w ∈ lw_all, w.before args s = true := fun w h => hts0 w (List.mem_cons_of_mem _ h)
  have hown : s.vm.findClass RX3 = some m.cls := findClass_of_methodNamed B.named
  have hlocks := B.notSynchronized
  have hout9 : ∀ (pc9 : Nat), ∀ x ∈ c.exceptionTable.toList, covers x pc9 = false := fun _ x hx9 => (htab x hx9).elim
  subst hsz
  have hS : va_S (wA Z s.heap.size) s.heap s.heap [] := va_S.rf
  have hl := lv_entry ([.ref (Z.2.2 1 i0)]) (n := 3) (Nat.le_of_ble_eq_true rfl)
  have hen : entryFrame m args 3 = entryFrame m ([.ref (Z.2.2 1 i0)] : List Value).toArray 3 := by rw [hargs]
  rw [hen, lg_entry_eq]
  generalize (lg_sl ([.ref (Z.2.2 1 i0)]) ++ List.replicate (3 - (lg_sl ([.ref (Z.2.2 1 i0)])).length) Slot.unset).toArray = ls at hl ⊢
  have hl : lv_has ls 3 [(0, .ref (Z.2.2 1 i0))] := hl
  have hk := hf
  unfold f_X3_isWhole at hk
  refine lv_iconst (v := (0 : Int32)) hx hb dX3_isWhole_0 (by decide) ?_
  refine lv_istore_n (lv' := [(1, .int (0 : Int32)), (0, .ref (Z.2.2 1 i0))]) hx hb dX3_isWhole_1 rfl hl (by decide) rfl (fun ls hl => ?_)
  refine lv_iconst (v := (0 : Int32)) hx hb dX3_isWhole_2 (by decide) ?_
  refine lv_istore_n (lv' := [(2, .int (0 : Int32)), (1, .int (0 : Int32)), (0, .ref (Z.2.2 1 i0))]) hx hb dX3_isWhole_3 rfl hl (by decide) rfl (fun ls hl => ?_)
  obtain ⟨k1, hk1, hk⟩ := gn hk
  have ex1 : ∀ (v2 : Int32) (H : Heap) (locs : List Loc) (ls : Array Slot), k1 v2 = some (r) → wP Z (X, M, O) H → va_S (wA Z s.heap.size) s.heap H locs → lv_has ls 3 [(1, .int v2)] → W p l e (headSpec ws_X3_isWhole rm_X3_isWhole).room s m args below meth c H locs 0 0 (vx_MQ below (cQi Z (X, M, O) (.inl r) s.heap.size) (cX Z (X, M, O) (.inl r : Int32 ⊕ String) s.heap.size) args s 0 0 (wA Z s.heap.size)) (F0 m 55 ls []) := by
    intro v2 H locs ls hk hP hS hl
    subst hk1
    refine lv_iload_n hx hb dX3_isWhole_55 rfl (lv_at hl 0 rfl) ?_
    refine lv_if_ne (tgt := 63) hx hb dX3_isWhole_56 (by decide) (fun cz5 => ?_) (fun cz5 => ?_)
    · have hk := it_f cz5 hk
      refine lv_iconst (v := (0 : Int32)) hx hb dX3_isWhole_63 (by decide) ?_
      cases (show some _ = some _ from hk)
      exact we_z hx hb hr hlocks (show okz (0 : Int32) by unfold okz; decide).1 hP rfl hS dX3_isWhole_64 (by decide) (by decide)
    · have hk := it_t cz5 hk
      refine lv_iconst (v := (1 : Int32)) hx hb dX3_isWhole_59 (by decide) ?_
      refine lv_goto (tgt := 64) hx hb dX3_isWhole_60 (by decide) ?_
      cases (show some _ = some _ from hk)
      exact we_z hx hb hr hlocks (show okz (1 : Int32) by unfold okz; decide).1 hP rfl hS dX3_isWhole_64 (by decide) (by decide)
  have lp1 : ∀ (n : Nat) (v3 : Int32) (v4 : Int32) (H : Heap) (locs : List Loc) (ls : Array Slot), f_X3_isWhole_L4 X i0 n v3 v4 k1 = some (r) → wP Z (X, M, O) H → va_S (wA Z s.heap.size) s.heap H locs → lv_has ls 3 [(2, .int v3), (1, .int v4), (0, .ref (Z.2.2 1 i0))] → W p l e (headSpec ws_X3_isWhole rm_X3_isWhole).room s m args below meth c H locs 0 0 (vx_MQ below (cQi Z (X, M, O) (.inl r) s.heap.size) (cX Z (X, M, O) (.inl r : Int32 ⊕ String) s.heap.size) args s 0 0 (wA Z s.heap.size)) (F0 m 4 ls []) := by
    intro n
    induction n with
    | zero =>
      intro v3 v4 H locs ls hk
      rw [f_X3_isWhole_L4] at hk
      exact nomatch (show none = some _ from hk)
    | succ n ih =>
      intro v3 v4 H locs ls hk hP hS hl
      rw [f_X3_isWhole_L4] at hk
      refine lv_iload_n hx hb dX3_isWhole_4 rfl (lv_at hl 0 rfl) ?_
      refine lv_aload_n hx hb dX3_isWhole_5 rfl (lv_at hl 2 rfl) ?_
      refine gf_RX3_19 hx hb hts hown hK hP hi0 dX3_isWhole_6 ?_
      refine lv_icmp_ge (tgt := 55) hx hb dX3_isWhole_9 (by decide) (fun cz6 => ?_) (fun cz6 => ?_)
      · have hk := it_t cz6 hk
        exact ex1 v4 _ _ _ hk hP hS (lv_sub hl [1] rfl)
      · have hk := it_f cz6 hk
        refine lv_aload_n hx hb dX3_isWhole_12 rfl (lv_at hl 2 rfl) ?_
        refine gf_RX3_9 hx hb hts hown hK hP hi0 dX3_isWhole_13 ?_
        refine lv_iload_n hx hb dX3_isWhole_16 rfl (lv_at hl 0 rfl) ?_
        obtain ⟨hg7, hk⟩ := gd_s hk
        refine wa_caload_2 hx hb hK hP hi0 hg7 dX3_isWhole_17 ?_
        refine lv_bipush (v := (91 : Int32)) hx hb dX3_isWhole_18 (by decide) ?_
        refine lv_icmp_ne (tgt := 29) hx hb dX3_isWhole_20 (by decide) (fun cz8 => ?_) (fun cz8 => ?_)
        · have hk := it_f cz8 hk
          refine lv_aload_n hx hb dX3_isWhole_29 rfl (lv_at hl 2 rfl) ?_
          refine gf_RX3_9 hx hb hts hown hK hP hi0 dX3_isWhole_30 ?_
          refine lv_iload_n hx hb dX3_isWhole_33 rfl (lv_at hl 0 rfl) ?_
          obtain ⟨hg9, hk⟩ := gd_s hk
          refine wa_caload_2 hx hb hK hP hi0 hg9 dX3_isWhole_34 ?_
          refine lv_bipush (v := (93 : Int32)) hx hb dX3_isWhole_35 (by decide) ?_
          refine lv_icmp_ne (tgt := 43) hx hb dX3_isWhole_37 (by decide) (fun cz10 => ?_) (fun cz10 => ?_)
          · have hk := it_f cz10 hk
            refine lv_iload_n hx hb dX3_isWhole_43 rfl (lv_at hl 1 rfl) ?_
            refine lv_if_ge (tgt := 49) hx hb dX3_isWhole_44 (by decide) (fun cz11 => ?_) (fun cz11 => ?_)
            · have hk := it_t cz11 hk
              refine lv_iinc (v := (v3 + (1 : Int32))) (lv' := [(2, .int (v3 + (1 : Int32))), (1, .int v4), (0, .ref (Z.2.2 1 i0))]) hx hb dX3_isWhole_49 hl (k := 0) rfl rfl (by decide) rfl (fun ls hl => ?_)
              refine lv_goto (tgt := 4) hx hb dX3_isWhole_52 (by decide) ?_
              exact ih (v3 + (1 : Int32)) v4 _ _ _ hk hP hS (lv_sub hl [0, 1, 2] rfl)
            · have hk := it_f cz11 hk
              refine lv_iconst (v := (0 : Int32)) hx hb dX3_isWhole_47 (by decide) ?_
              cases (show some _ = some _ from hk)
              exact we_z hx hb hr hlocks (show okz (0 : Int32) by unfold okz; decide).1 hP rfl hS dX3_isWhole_48 (by decide) (by decide)
          · have hk := it_t cz10 hk
            refine lv_iinc (v := (v4 + ((-1) : Int32))) (lv' := [(1, .int (v4 + ((-1) : Int32))), (2, .int v3), (0, .ref (Z.2.2 1 i0))]) hx hb dX3_isWhole_40 hl (k := 1) rfl rfl (by decide) rfl (fun ls hl => ?_)
            refine lv_iload_n hx hb dX3_isWhole_43 rfl (lv_at hl 0 rfl) ?_
            refine lv_if_ge (tgt := 49) hx hb dX3_isWhole_44 (by decide) (fun cz12 => ?_) (fun cz12 => ?_)
            · have hk := it_t cz12 hk
              refine lv_iinc (v := (v3 + (1 : Int32))) (lv' := [(2, .int (v3 + (1 : Int32))), (1, .int (v4 + ((-1) : Int32))), (0, .ref (Z.2.2 1 i0))]) hx hb dX3_isWhole_49 hl (k := 1) rfl rfl (by decide) rfl (fun ls hl => ?_)
              refine lv_goto (tgt := 4) hx hb dX3_isWhole_52 (by decide) ?_
              exact ih (v3 + (1 : Int32)) (v4 + ((-1) : Int32)) _ _ _ hk hP hS (lv_sub hl [0, 1, 2] rfl)
            · have hk := it_f cz12 hk
              refine lv_iconst (v := (0 : Int32)) hx hb dX3_isWhole_47 (by decide) ?_
              cases (show some _ = some _ from hk)
              exact we_z hx hb hr hlocks (show okz (0 : Int32) by unfold okz; decide).1 hP rfl hS dX3_isWhole_48 (by decide) (by decide)
        · have hk := it_t cz8 hk
          refine lv_iinc (v := (v4 + (1 : Int32))) (lv' := [(1, .int (v4 + (1 : Int32))), (2, .int v3), (0, .ref (Z.2.2 1 i0))]) hx hb dX3_isWhole_23 hl (k := 1) rfl rfl (by decide) rfl (fun ls hl => ?_)
          refine lv_goto (tgt := 43) hx hb dX3_isWhole_26 (by decide) ?_
          refine lv_iload_n hx hb dX3_isWhole_43 rfl (lv_at hl 0 rfl) ?_
          refine lv_if_ge (tgt := 49) hx hb dX3_isWhole_44 (by decide) (fun cz13 => ?_) (fun cz13 => ?_)
          · have hk := it_t cz13 hk
            refine lv_iinc (v := (v3 + (1 : Int32))) (lv' := [(2, .int (v3 + (1 : Int32))), (1, .int (v4 + (1 : Int32))), (0, .ref (Z.2.2 1 i0))]) hx hb dX3_isWhole_49 hl (k := 1) rfl rfl (by decide) rfl (fun ls hl => ?_)
            refine lv_goto (tgt := 4) hx hb dX3_isWhole_52 (by decide) ?_
            exact ih (v3 + (1 : Int32)) (v4 + (1 : Int32)) _ _ _ hk hP hS (lv_sub hl [0, 1, 2] rfl)
          · have hk := it_f cz13 hk
            refine lv_iconst (v := (0 : Int32)) hx hb dX3_isWhole_47 (by decide) ?_
            cases (show some _ = some _ from hk)
            exact we_z hx hb hr hlocks (show okz (0 : Int32) by unfold okz; decide).1 hP rfl hS dX3_isWhole_48 (by decide) (by decide)
  exact lp1 1000 (0 : Int32) (0 : Int32) _ _ _ hk hP hS (lv_sub hl [0, 1, 2] rfl)
set_option maxHeartbeats 4000000 in
set_option maxRecDepth 100000 in
theorem k_X3_sumOfAll (l : Launch) (hfl : l.stackTraces = false) (Z : ZT) (hZ : wD Z) (X M O : SS) (i0 : Nat) (hi0 : i0 < 71) (r : Int64) (hf : f_X3_sumOfAll X i0 = some (r)) (sz : Nat) : vx_Met l yX3_sumOfAll ws_X3_sumOfAll rm_X3_sumOfAll (va_Pc [.ref (Z.2.2 1 i0)] (cP Z (X, M, O) sz)) (cQl Z (X, M, O) (.inl r) sz) (cX Z (X, M, O) (.inl r : Int64 ⊕ String) sz) 0 0 (wA Z sz) := by
  refine vx_ofW (cc := cX3_sumOfAll) (maxL := 4) (ret := (some .long)) (by decide) rfl ?_
  intro p e s m args below meth c s₁ B hml htab hv
  obtain ⟨hargs, hsz, hE, hP, hK⟩ := hv
  have hx := B.exec
  have hb := B.bytes
  have hr := B.returns
  have hts0 := atoms_spec (ws := ws_X3_sumOfAll) B.pre
  have hts : ∀ w ∈ lw_all, w.before args s = true := fun w h => hts0 w (List.mem_cons_of_mem _ h)
  have hown : s.vm.findClass RX3 = some m.cls := findClass_of_methodNamed B.named
  have hlocks := B.notSynchronized
  have hout9 : ∀ (pc9 : Nat), ∀ x ∈ c.exceptionTable.toList, covers x pc9 = false := fun _ x hx9 => (htab x hx9).elim
  subst hsz
  have hS : va_S (wA Z s.heap.size) s.heap s.heap [] := va_S.rf
  have hl := lv_entry ([.ref (Z.2.2 1 i0)]) (n := 4) (Nat.le_of_ble_eq_true rfl)
  have hen : entryFrame m args 4 = entryFrame m ([.ref (Z.2.2 1 i0)] : List Value).toArray 4 := by rw [hargs]
  rw [hen, lg_entry_eq]
  generalize (lg_sl ([.ref (Z.2.2 1 i0)]) ++ List.replicate (4 - (lg_sl ([.ref (Z.2.2 1 i0)])).length) Slot.unset).toArray = ls at hl ⊢
  have hl : lv_has ls 4 [(0, .ref (Z.2.2 1 i0))] := hl
  have hk := hf
  unfold f_X3_sumOfAll at hk
  refine lv_ldc2 (v := (17 : Int64)) hx hb hown (hts _ q422) dX3_sumOfAll_0 ?_
  obtain ⟨v1, ev1, hk⟩ := lq_s hk
  refine W.eq (g2 := F0 m 3 ls [.long v1]) (by rw [ev1]) ?_
  refine lv_lstore_n (lv' := [(1, .long v1), (0, .ref (Z.2.2 1 i0))]) hx hb dX3_sumOfAll_3 rfl hl (by decide) rfl (fun ls hl => ?_)
  refine lv_iconst (v := (0 : Int32)) hx hb dX3_sumOfAll_4 (by decide) ?_
  refine lv_istore_n (lv' := [(3, .int (0 : Int32)), (1, .long v1), (0, .ref (Z.2.2 1 i0))]) hx hb dX3_sumOfAll_5 rfl hl (by decide) rfl (fun ls hl => ?_)
  obtain ⟨k2, hk2, hk⟩ := gn hk
  have ex2 : ∀ (v3 : Int64) (H : Heap) (locs : List Loc) (ls : Array Slot), k2 v3 = some (r) → wP Z (X, M, O) H → va_S (wA Z s.heap.size) s.heap H locs → lv_has ls 4 [(1, .long v3)] → W p l e (headSpec ws_X3_sumOfAll rm_X3_sumOfAll).room s m args below meth c H locs 0 0 (vx_MQ below (cQl Z (X, M, O) (.inl r) s.heap.size) (cX Z (X, M, O) (.inl r : Int64 ⊕ String) s.heap.size) args s 0 0 (wA Z s.heap.size)) (F0 m 48 ls []) := by
    intro v3 H locs ls hk hP hS hl
    subst hk2
    refine lv_lload_n hx hb dX3_sumOfAll_48 rfl (lv_at hl 0 rfl) ?_
    cases (show some _ = some _ from hk)
    exact we_l hx hb hr hlocks hP rfl hS dX3_sumOfAll_49 (by decide) (by decide)
  have lp2 : ∀ (n : Nat) (v4 : Int32) (v5 : Int64) (H : Heap) (locs : List Loc) (ls : Array Slot), f_X3_sumOfAll_L6 X i0 n v4 v5 k2 = some (r) → wP Z (X, M, O) H → va_S (wA Z s.heap.size) s.heap H locs → lv_has ls 4 [(3, .int v4), (1, .long v5), (0, .ref (Z.2.2 1 i0))] → W p l e (headSpec ws_X3_sumOfAll rm_X3_sumOfAll).room s m args below meth c H locs 0 0 (vx_MQ below (cQl Z (X, M, O) (.inl r) s.heap.size) (cX Z (X, M, O) (.inl r : Int64 ⊕ String) s.heap.size) args s 0 0 (wA Z s.heap.size)) (F0 m 6 ls []) := by
    intro n
    induction n with
    | zero =>
      intro v4 v5 H locs ls hk
      rw [f_X3_sumOfAll_L6] at hk
      exact nomatch (show none = some _ from hk)
    | succ n ih =>
      intro v4 v5 H locs ls hk hP hS hl
      rw [f_X3_sumOfAll_L6] at hk
      refine lv_iload_n hx hb dX3_sumOfAll_6 rfl (lv_at hl 0 rfl) ?_
      refine lv_aload_n hx hb dX3_sumOfAll_7 rfl (lv_at hl 2 rfl) ?_
      refine gf_RX3_19 hx hb hts hown hK hP hi0 dX3_sumOfAll_8 ?_
      refine lv_icmp_ge (tgt := 48) hx hb dX3_sumOfAll_11 (by decide) (fun cz6 => ?_) (fun cz6 => ?_)
      · have hk := it_t cz6 hk
        exact ex2 v5 _ _ _ hk hP hS (lv_sub hl [1] rfl)
      · have hk := it_f cz6 hk
        refine lv_lload_n hx hb dX3_sumOfAll_14 rfl (lv_at hl 1 rfl) ?_
        refine lv_ldc2 (v := (31 : Int64)) hx hb hown (hts _ q423) dX3_sumOfAll_15 ?_
        refine lv_lmul hx hb dX3_sumOfAll_18 ?_
        refine lv_aload_n hx hb dX3_sumOfAll_19 rfl (lv_at hl 2 rfl) ?_
        refine gf_RX3_9 hx hb hts hown hK hP hi0 dX3_sumOfAll_20 ?_
        refine lv_iload_n hx hb dX3_sumOfAll_23 rfl (lv_at hl 0 rfl) ?_
        obtain ⟨hg7, hk⟩ := gd_s hk
        refine wa_caload_2 hx hb hK hP hi0 hg7 dX3_sumOfAll_24 ?_
        refine lv_i2l (v := ((X.1 2 i0 (v4).toNatClampNeg)).toInt64) hx hb dX3_sumOfAll_25 rfl ?_
        refine lv_ladd hx hb dX3_sumOfAll_26 ?_
        obtain ⟨v8, ev8, hk⟩ := lq_s hk
        refine W.eq (g2 := F0 m 27 ls [.long v8]) (by rw [ev8]) ?_
        refine lv_lstore_n (lv' := [(1, .long v8), (3, .int v4), (0, .ref (Z.2.2 1 i0))]) hx hb dX3_sumOfAll_27 rfl hl (by decide) rfl (fun ls hl => ?_)
        refine lv_lload_n hx hb dX3_sumOfAll_28 rfl (lv_at hl 0 rfl) ?_
        refine lv_ldc2 (v := (31 : Int64)) hx hb hown (hts _ q423) dX3_sumOfAll_29 ?_
        refine lv_lmul hx hb dX3_sumOfAll_32 ?_
        refine lv_aload_n hx hb dX3_sumOfAll_33 rfl (lv_at hl 2 rfl) ?_
        refine gf_RX3_15 hx hb hts hown hK hP hi0 dX3_sumOfAll_34 ?_
        refine lv_iload_n hx hb dX3_sumOfAll_37 rfl (lv_at hl 1 rfl) ?_
        obtain ⟨hg9, hk⟩ := gd_s hk
        refine wa_iaload_3 hx hb hK hP hi0 hg9 dX3_sumOfAll_38 ?_
        refine lv_i2l (v := ((X.1 3 i0 (v4).toNatClampNeg)).toInt64) hx hb dX3_sumOfAll_39 rfl ?_
        refine lv_ladd hx hb dX3_sumOfAll_40 ?_
        obtain ⟨v10, ev10, hk⟩ := lq_s hk
        refine W.eq (g2 := F0 m 41 ls [.long v10]) (by rw [ev10]) ?_
        refine lv_lstore_n (lv' := [(1, .long v10), (3, .int v4), (0, .ref (Z.2.2 1 i0))]) hx hb dX3_sumOfAll_41 rfl hl (by decide) rfl (fun ls hl => ?_)
        refine lv_iinc (v := (v4 + (1 : Int32))) (lv' := [(3, .int (v4 + (1 : Int32))), (1, .long v10), (0, .ref (Z.2.2 1 i0))]) hx hb dX3_sumOfAll_42 hl (k := 1) rfl rfl (by decide) rfl (fun ls hl => ?_)
        refine lv_goto (tgt := 6) hx hb dX3_sumOfAll_45 (by decide) ?_
        exact ih (v4 + (1 : Int32)) v10 _ _ _ hk hP hS (lv_sub hl [0, 1, 2] rfl)
  exact lp2 1000 (0 : Int32) v1 _ _ _ hk hP hS (lv_sub hl [0, 1, 2] rfl)
set_option maxHeartbeats 4000000 in
set_option maxRecDepth 100000 in
theorem k_X4_addInput (l : Launch) (hfl : l.stackTraces = false) (Z : ZT) (hZ : wD Z) (X M O : SS) (i0 : Nat) (p0 : Int32) (hi0 : i0 < 41) (Xz : SS) (r : Int32) (hf : f_X4_addInput X i0 p0 = some (Xz, r)) (sz : Nat) : vx_Met l yX4_addInput ws_X4_addInput rm_X4_addInput (va_Pc [.ref (Z.2.2 4 i0), .int p0] (cP Z (X, M, O) sz)) (cQi Z (Xz, M, O) (.inl r) sz) (cX Z (Xz, M, O) (.inl r : Int32 ⊕ String) sz) 0 0 (wA Z sz) := by
  refine vx_ofW (cc := cX4_addInput) (maxL := 2) (ret := (some .int)) (by decide) rfl ?_
  intro p e s m args below meth c s₁ B hml htab hv
  obtain ⟨hargs, hsz, hE, hP, hK⟩ := hv
  have hx := B.exec
  have hb := B.bytes
  have hr := B.returns
  have hts0 := atoms_spec (ws := ws_X4_addInput) B.pre
  have hts : ∀ w ∈ lw_all, w.before args s = true := fun w h => hts0 w (List.mem_cons_of_mem _ h)
  have hown : s.vm.findClass RX4 = some m.cls := findClass_of_methodNamed B.named
  have hlocks := B.notSynchronized
  have hout9 : ∀ (pc9 : Nat), ∀ x ∈ c.exceptionTable.toList, covers x pc9 = false := fun _ x hx9 => (htab x hx9).elim
  subst hsz
  have hS : va_S (wA Z s.heap.size) s.heap s.heap [] := va_S.rf
  have hl := lv_entry ([.ref (Z.2.2 4 i0), .int p0]) (n := 2) (Nat.le_of_ble_eq_true rfl)
  have hen : entryFrame m args 2 = entryFrame m ([.ref (Z.2.2 4 i0), .int p0] : List Value).toArray 2 := by rw [hargs]
  rw [hen, lg_entry_eq]
  generalize (lg_sl ([.ref (Z.2.2 4 i0), .int p0]) ++ List.replicate (2 - (lg_sl ([.ref (Z.2.2 4 i0), .int p0])).length) Slot.unset).toArray = ls at hl ⊢
  have hl : lv_has ls 2 [(0, .ref (Z.2.2 4 i0)), (1, .int p0)] := hl
  have hk := hf
  unfold f_X4_addInput at hk
  refine lv_aload_n hx hb dX4_addInput_0 rfl (lv_at hl 0 rfl) ?_
  refine gf_RX4_18 hx hb hts hown hK hP hi0 dX4_addInput_1 ?_
  refine lv_iconst (v := (4 : Int32)) hx hb dX4_addInput_4 (by decide) ?_
  refine lv_icmp_ge (tgt := 28) hx hb dX4_addInput_5 (by decide) (fun cz1 => ?_) (fun cz1 => ?_)
  · have hk := it_t cz1 hk
    refine lv_aload_n hx hb dX4_addInput_28 rfl (lv_at hl 0 rfl) ?_
    refine gf_RX4_18 hx hb hts hown hK hP hi0 dX4_addInput_29 ?_
    cases (show some _ = some _ from hk)
    exact we_i hx hb hr hlocks hP rfl hS dX4_addInput_32 (by decide) (by decide)
  · have hk := it_f cz1 hk
    refine lv_aload_n hx hb dX4_addInput_8 rfl (lv_at hl 0 rfl) ?_
    refine gf_RX4_9 hx hb hts hown hK hP hi0 dX4_addInput_9 ?_
    refine lv_aload_n hx hb dX4_addInput_12 rfl (lv_at hl 0 rfl) ?_
    refine gf_RX4_18 hx hb hts hown hK hP hi0 dX4_addInput_13 ?_
    refine lv_iload_n hx hb dX4_addInput_16 rfl (lv_at hl 1 rfl) ?_
    obtain ⟨hg2, hk⟩ := gd_s hk
    obtain ⟨X3, eX3, hk⟩ := lq_s hk
    refine wa_iastore_5 hx hb hZ hK hP hS hi0 hg2 dX4_addInput_17 (fun H locs hP hS => ?_)
    rw [← eX3] at hP
    refine lv_aload_n hx hb dX4_addInput_18 rfl (lv_at hl 0 rfl) ?_
    refine lv_dup hx hb dX4_addInput_19 rfl ?_
    refine gf_RX4_18 hx hb hts hown hK hP hi0 dX4_addInput_20 ?_
    refine lv_iconst (v := (1 : Int32)) hx hb dX4_addInput_23 (by decide) ?_
    refine lv_iadd hx hb dX4_addInput_24 ?_
    obtain ⟨X4, eX4, hk⟩ := lq_s hk
    refine pf_RX4_18 hx hb hts hown hZ hK hP hS hi0 dX4_addInput_25 (fun H locs hP hS => ?_)
    rw [← eX4] at hP
    refine lv_aload_n hx hb dX4_addInput_28 rfl (lv_at hl 0 rfl) ?_
    refine gf_RX4_18 hx hb hts hown hK hP hi0 dX4_addInput_29 ?_
    cases (show some _ = some _ from hk)
    exact we_i hx hb hr hlocks hP rfl hS dX4_addInput_32 (by decide) (by decide)
set_option maxHeartbeats 4000000 in
set_option maxRecDepth 100000 in
theorem k_X4_addExpected (l : Launch) (hfl : l.stackTraces = false) (Z : ZT) (hZ : wD Z) (X M O : SS) (i0 : Nat) (p0 : Int32) (hi0 : i0 < 41) (Xz : SS) (r : Int32) (hf : f_X4_addExpected X i0 p0 = some (Xz, r)) (sz : Nat) : vx_Met l yX4_addExpected ws_X4_addExpected rm_X4_addExpected (va_Pc [.ref (Z.2.2 4 i0), .int p0] (cP Z (X, M, O) sz)) (cQi Z (Xz, M, O) (.inl r) sz) (cX Z (Xz, M, O) (.inl r : Int32 ⊕ String) sz) 0 0 (wA Z sz) := by
  refine vx_ofW (cc := cX4_addExpected) (maxL := 2) (ret := (some .int)) (by decide) rfl ?_
  intro p e s m args below meth c s₁ B hml htab hv
  obtain ⟨hargs, hsz, hE, hP, hK⟩ := hv
  have hx := B.exec
  have hb := B.bytes
  have hr := B.returns
  have hts0 := atoms_spec (ws := ws_X4_addExpected) B.pre
  have hts : ∀ w ∈ lw_all, w.before args s = true := fun w h => hts0 w (List.mem_cons_of_mem _ h)
  have hown : s.vm.findClass RX4 = some m.cls := findClass_of_methodNamed B.named
  have hlocks := B.notSynchronized
  have hout9 : ∀ (pc9 : Nat), ∀ x ∈ c.exceptionTable.toList, covers x pc9 = false := fun _ x hx9 => (htab x hx9).elim
  subst hsz
  have hS : va_S (wA Z s.heap.size) s.heap s.heap [] := va_S.rf
  have hl := lv_entry ([.ref (Z.2.2 4 i0), .int p0]) (n := 2) (Nat.le_of_ble_eq_true rfl)
  have hen : entryFrame m args 2 = entryFrame m ([.ref (Z.2.2 4 i0), .int p0] : List Value).toArray 2 := by rw [hargs]
  rw [hen, lg_entry_eq]
  generalize (lg_sl ([.ref (Z.2.2 4 i0), .int p0]) ++ List.replicate (2 - (lg_sl ([.ref (Z.2.2 4 i0), .int p0])).length) Slot.unset).toArray = ls at hl ⊢
  have hl : lv_has ls 2 [(0, .ref (Z.2.2 4 i0)), (1, .int p0)] := hl
  have hk := hf
  unfold f_X4_addExpected at hk
  refine lv_aload_n hx hb dX4_addExpected_0 rfl (lv_at hl 0 rfl) ?_
  refine gf_RX4_22 hx hb hts hown hK hP hi0 dX4_addExpected_1 ?_
  refine lv_bipush (v := (6 : Int32)) hx hb dX4_addExpected_4 (by decide) ?_
  refine lv_icmp_ge (tgt := 29) hx hb dX4_addExpected_6 (by decide) (fun cz1 => ?_) (fun cz1 => ?_)
  · have hk := it_t cz1 hk
    refine lv_aload_n hx hb dX4_addExpected_29 rfl (lv_at hl 0 rfl) ?_
    refine gf_RX4_22 hx hb hts hown hK hP hi0 dX4_addExpected_30 ?_
    cases (show some _ = some _ from hk)
    exact we_i hx hb hr hlocks hP rfl hS dX4_addExpected_33 (by decide) (by decide)
  · have hk := it_f cz1 hk
    refine lv_aload_n hx hb dX4_addExpected_9 rfl (lv_at hl 0 rfl) ?_
    refine gf_RX4_15 hx hb hts hown hK hP hi0 dX4_addExpected_10 ?_
    refine lv_aload_n hx hb dX4_addExpected_13 rfl (lv_at hl 0 rfl) ?_
    refine gf_RX4_22 hx hb hts hown hK hP hi0 dX4_addExpected_14 ?_
    refine lv_iload_n hx hb dX4_addExpected_17 rfl (lv_at hl 1 rfl) ?_
    obtain ⟨hg2, hk⟩ := gd_s hk
    obtain ⟨X3, eX3, hk⟩ := lq_s hk
    refine wa_iastore_6 hx hb hZ hK hP hS hi0 hg2 dX4_addExpected_18 (fun H locs hP hS => ?_)
    rw [← eX3] at hP
    refine lv_aload_n hx hb dX4_addExpected_19 rfl (lv_at hl 0 rfl) ?_
    refine lv_dup hx hb dX4_addExpected_20 rfl ?_
    refine gf_RX4_22 hx hb hts hown hK hP hi0 dX4_addExpected_21 ?_
    refine lv_iconst (v := (1 : Int32)) hx hb dX4_addExpected_24 (by decide) ?_
    refine lv_iadd hx hb dX4_addExpected_25 ?_
    obtain ⟨X4, eX4, hk⟩ := lq_s hk
    refine pf_RX4_22 hx hb hts hown hZ hK hP hS hi0 dX4_addExpected_26 (fun H locs hP hS => ?_)
    rw [← eX4] at hP
    refine lv_aload_n hx hb dX4_addExpected_29 rfl (lv_at hl 0 rfl) ?_
    refine gf_RX4_22 hx hb hts hown hK hP hi0 dX4_addExpected_30 ?_
    cases (show some _ = some _ from hk)
    exact we_i hx hb hr hlocks hP rfl hS dX4_addExpected_33 (by decide) (by decide)
set_option maxHeartbeats 4000000 in
set_option maxRecDepth 100000 in
theorem k_X4_erase (l : Launch) (hfl : l.stackTraces = false) (Z : ZT) (hZ : wD Z) (X M O : SS) (i0 : Nat) (hi0 : i0 < 41) (Xz : SS) (r : Unit) (hf : f_X4_erase X i0 = some (Xz, r)) (sz : Nat) : vx_Met l yX4_erase ws_X4_erase rm_X4_erase (va_Pc [.ref (Z.2.2 4 i0)] (cP Z (X, M, O) sz)) (cQv Z (Xz, M, O) (.inl ()) sz) (cX Z (Xz, M, O) (.inl () : Unit ⊕ String) sz) 0 0 (wA Z sz) := by
  refine vx_ofW (cc := cX4_erase) (maxL := 1) (ret := none) (by decide) rfl ?_
  intro p e s m args below meth c s₁ B hml htab hv
  obtain ⟨hargs, hsz, hE, hP, hK⟩ := hv
  have hx := B.exec
  have hb := B.bytes
  have hr := B.returns
  have hts0 := atoms_spec (ws := ws_X4_erase) B.pre
  have hts : ∀ w ∈ lw_all, w.before args s = true := fun w h => hts0 w (List.mem_cons_of_mem _ h)
  have hown : s.vm.findClass RX4 = some m.cls := findClass_of_methodNamed B.named
  have hlocks := B.notSynchronized
  have hout9 : ∀ (pc9 : Nat), ∀ x ∈ c.exceptionTable.toList, covers x pc9 = false := fun _ x hx9 => (htab x hx9).elim
  subst hsz
  have hS : va_S (wA Z s.heap.size) s.heap s.heap [] := va_S.rf
  have hl := lv_entry ([.ref (Z.2.2 4 i0)]) (n := 1) (Nat.le_of_ble_eq_true rfl)
  have hen : entryFrame m args 1 = entryFrame m ([.ref (Z.2.2 4 i0)] : List Value).toArray 1 := by rw [hargs]
  rw [hen, lg_entry_eq]
  generalize (lg_sl ([.ref (Z.2.2 4 i0)]) ++ List.replicate (1 - (lg_sl ([.ref (Z.2.2 4 i0)])).length) Slot.unset).toArray = ls at hl ⊢
  have hl : lv_has ls 1 [(0, .ref (Z.2.2 4 i0))] := hl
  have hk := hf
  unfold f_X4_erase at hk
  refine lv_aload_n hx hb dX4_erase_0 rfl (lv_at hl 0 rfl) ?_
  refine lv_iconst (v := (0 : Int32)) hx hb dX4_erase_1 (by decide) ?_
  obtain ⟨X1, eX1, hk⟩ := lq_s hk
  refine pf_RX4_18 hx hb hts hown hZ hK hP hS hi0 dX4_erase_2 (fun H locs hP hS => ?_)
  rw [← eX1] at hP
  refine lv_aload_n hx hb dX4_erase_5 rfl (lv_at hl 0 rfl) ?_
  refine lv_iconst (v := (0 : Int32)) hx hb dX4_erase_6 (by decide) ?_
  obtain ⟨X2, eX2, hk⟩ := lq_s hk
  refine pf_RX4_22 hx hb hts hown hZ hK hP hS hi0 dX4_erase_7 (fun H locs hP hS => ?_)
  rw [← eX2] at hP
  cases (show some _ = some _ from hk)
  exact we_v hx hb hr hlocks hP rfl hS dX4_erase_10 (by decide) (by decide)
set_option maxHeartbeats 4000000 in
set_option maxRecDepth 100000 in
theorem k_X4_take (l : Launch) (hfl : l.stackTraces = false) (Z : ZT) (hZ : wD Z) (X M O : SS) (i0 : Nat) (i1 : Nat) (hi0 : i0 < 41) (hi1 : i1 < 41) (Xz : SS) (r : Unit) (hf : f_X4_take X i0 i1 = some (Xz, r)) (sz : Nat) : vx_Met l yX4_take ws_X4_take rm_X4_take (va_Pc [.ref (Z.2.2 4 i0), .ref (Z.2.2 4 i1)] (cP Z (X, M, O) sz)) (cQv Z (Xz, M, O) (.inl ()) sz) (cX Z (Xz, M, O) (.inl () : Unit ⊕ String) sz) 0 0 (wA Z sz) := by
  refine vx_ofW (cc := cX4_take) (maxL := 3) (ret := none) (by decide) rfl ?_
  intro p e s m args below meth c s₁ B hml htab hv
  obtain ⟨hargs, hsz, hE, hP, hK⟩ := hv
  have hx := B.exec
  have hb := B.bytes
  have hr := B.returns
  have hts0 := atoms_spec (ws := ws_X4_take) B.pre
  have hts : ∀ w ∈ lw_all, w.before args s = true := fun w h => hts0 w (List.mem_cons_of_mem _ h)
  have hown : s.vm.findClass RX4 = some m.cls := findClass_of_methodNamed B.named
  have hlocks := B.notSynchronized
  have hout9 : ∀ (pc9 : Nat), ∀ x ∈ c.exceptionTable.toList, covers x pc9 = false := fun _ x hx9 => (htab x hx9).elim
  subst hsz
  have hS : va_S (wA Z s.heap.size) s.heap s.heap [] := va_S.rf
  have hl := lv_entry ([.ref (Z.2.2 4 i0), .ref (Z.2.2 4 i1)]) (n := 3) (Nat.le_of_ble_eq_true rfl)
  have hen : entryFrame m args 3 = entryFrame m ([.ref (Z.2.2 4 i0), .ref (Z.2.2 4 i1)] : List Value).toArray 3 := by rw [hargs]
  rw [hen, lg_entry_eq]
  generalize (lg_sl ([.ref (Z.2.2 4 i0), .ref (Z.2.2 4 i1)]) ++ List.replicate (3 - (lg_sl ([.ref (Z.2.2 4 i0), .ref (Z.2.2 4 i1)])).length) Slot.unset).toArray = ls at hl ⊢
  have hl : lv_has ls 3 [(0, .ref (Z.2.2 4 i0)), (1, .ref (Z.2.2 4 i1))] := hl
  have hk := hf
  unfold f_X4_take at hk
  refine lv_aload_n hx hb dX4_take_0 rfl (lv_at hl 0 rfl) ?_
  refine lv_aload_n hx hb dX4_take_1 rfl (lv_at hl 1 rfl) ?_
  refine gf_RX4_18 hx hb hts hown hK hP hi1 dX4_take_2 ?_
  obtain ⟨X1, eX1, hk⟩ := lq_s hk
  refine pf_RX4_18 hx hb hts hown hZ hK hP hS hi0 dX4_take_5 (fun H locs hP hS => ?_)
  rw [← eX1] at hP
  refine lv_aload_n hx hb dX4_take_8 rfl (lv_at hl 0 rfl) ?_
  refine lv_aload_n hx hb dX4_take_9 rfl (lv_at hl 1 rfl) ?_
  refine gf_RX4_22 hx hb hts hown hK hP hi1 dX4_take_10 ?_
  obtain ⟨X2, eX2, hk⟩ := lq_s hk
  refine pf_RX4_22 hx hb hts hown hZ hK hP hS hi0 dX4_take_13 (fun H locs hP hS => ?_)
  rw [← eX2] at hP
  refine lv_iconst (v := (0 : Int32)) hx hb dX4_take_16 (by decide) ?_
  refine lv_istore_n (lv' := [(2, .int (0 : Int32)), (0, .ref (Z.2.2 4 i0)), (1, .ref (Z.2.2 4 i1))]) hx hb dX4_take_17 rfl hl (by decide) rfl (fun ls hl => ?_)
  obtain ⟨k3, hk3, hk⟩ := gn hk
  have ex3 : ∀ (X4 : SS) (H : Heap) (locs : List Loc) (ls : Array Slot), k3 X4 = some (Xz, r) → wP Z (X4, M, O) H → va_S (wA Z s.heap.size) s.heap H locs → lv_has ls 3 [(0, .ref (Z.2.2 4 i0)), (1, .ref (Z.2.2 4 i1))] → W p l e (headSpec ws_X4_take rm_X4_take).room s m args below meth c H locs 0 0 (vx_MQ below (cQv Z (Xz, M, O) (.inl ()) s.heap.size) (cX Z (Xz, M, O) (.inl () : Unit ⊕ String) s.heap.size) args s 0 0 (wA Z s.heap.size)) (F0 m 44 ls []) := by
    intro X4 H locs ls hk hP hS hl
    subst hk3
    refine lv_iconst (v := (0 : Int32)) hx hb dX4_take_44 (by decide) ?_
    refine lv_istore_n (lv' := [(2, .int (0 : Int32)), (0, .ref (Z.2.2 4 i0)), (1, .ref (Z.2.2 4 i1))]) hx hb dX4_take_45 rfl hl (by decide) rfl (fun ls hl => ?_)
    obtain ⟨k7, hk7, hk⟩ := gn hk
    have ex7 : ∀ (X8 : SS) (H : Heap) (locs : List Loc) (ls : Array Slot), k7 X8 = some (Xz, r) → wP Z (X8, M, O) H → va_S (wA Z s.heap.size) s.heap H locs → lv_has ls 3 [] → W p l e (headSpec ws_X4_take rm_X4_take).room s m args below meth c H locs 0 0 (vx_MQ below (cQv Z (Xz, M, O) (.inl ()) s.heap.size) (cX Z (Xz, M, O) (.inl () : Unit ⊕ String) s.heap.size) args s 0 0 (wA Z s.heap.size)) (F0 m 72 ls []) := by
      intro X8 H locs ls hk hP hS hl
      subst hk7
      cases (show some _ = some _ from hk)
      exact we_v hx hb hr hlocks hP rfl hS dX4_take_72 (by decide) (by decide)
    have lp7 : ∀ (n : Nat) (v9 : Int32) (X10 : SS) (H : Heap) (locs : List Loc) (ls : Array Slot), f_X4_take_L46 i0 i1 n v9 X10 k7 = some (Xz, r) → wP Z (X10, M, O) H → va_S (wA Z s.heap.size) s.heap H locs → lv_has ls 3 [(2, .int v9), (0, .ref (Z.2.2 4 i0)), (1, .ref (Z.2.2 4 i1))] → W p l e (headSpec ws_X4_take rm_X4_take).room s m args below meth c H locs 0 0 (vx_MQ below (cQv Z (Xz, M, O) (.inl ()) s.heap.size) (cX Z (Xz, M, O) (.inl () : Unit ⊕ String) s.heap.size) args s 0 0 (wA Z s.heap.size)) (F0 m 46 ls []) := by
      intro n
      induction n with
      | zero =>
        intro v9 X10 H locs ls hk
        rw [f_X4_take_L46] at hk
        exact nomatch (show none = some _ from hk)
      | succ n ih =>
        intro v9 X10 H locs ls hk hP hS hl
        rw [f_X4_take_L46] at hk
        refine lv_iload_n hx hb dX4_take_46 rfl (lv_at hl 0 rfl) ?_
        refine lv_aload_n hx hb dX4_take_47 rfl (lv_at hl 1 rfl) ?_
        refine gf_RX4_22 hx hb hts hown hK hP hi0 dX4_take_48 ?_
        refine lv_icmp_ge (tgt := 72) hx hb dX4_take_51 (by decide) (fun cz11 => ?_) (fun cz11 => ?_)
        · have hk := it_t cz11 hk
          exact ex7 X10 _ _ _ hk hP hS (lv_sub hl [] rfl)
        · have hk := it_f cz11 hk
          refine lv_aload_n hx hb dX4_take_54 rfl (lv_at hl 1 rfl) ?_
          refine gf_RX4_15 hx hb hts hown hK hP hi0 dX4_take_55 ?_
          refine lv_iload_n hx hb dX4_take_58 rfl (lv_at hl 0 rfl) ?_
          refine lv_aload_n hx hb dX4_take_59 rfl (lv_at hl 2 rfl) ?_
          refine gf_RX4_15 hx hb hts hown hK hP hi1 dX4_take_60 ?_
          refine lv_iload_n hx hb dX4_take_63 rfl (lv_at hl 0 rfl) ?_
          obtain ⟨hg12, hk⟩ := gd_s hk
          refine wa_iaload_6 hx hb hK hP hi1 hg12 dX4_take_64 ?_
          obtain ⟨hg13, hk⟩ := gd_s hk
          obtain ⟨X14, eX14, hk⟩ := lq_s hk
          refine wa_iastore_6 hx hb hZ hK hP hS hi0 hg13 dX4_take_65 (fun H locs hP hS => ?_)
          rw [← eX14] at hP
          refine lv_iinc (v := (v9 + (1 : Int32))) (lv' := [(2, .int (v9 + (1 : Int32))), (0, .ref (Z.2.2 4 i0)), (1, .ref (Z.2.2 4 i1))]) hx hb dX4_take_66 hl (k := 0) rfl rfl (by decide) rfl (fun ls hl => ?_)
          refine lv_goto (tgt := 46) hx hb dX4_take_69 (by decide) ?_
          exact ih (v9 + (1 : Int32)) X14 _ _ _ hk hP hS (lv_sub hl [0, 1, 2] rfl)
    exact lp7 1000 (0 : Int32) X4 _ _ _ hk hP hS (lv_sub hl [0, 1, 2] rfl)
  have lp3 : ∀ (n : Nat) (v5 : Int32) (X6 : SS) (H : Heap) (locs : List Loc) (ls : Array Slot), f_X4_take_L18 i0 i1 n v5 X6 k3 = some (Xz, r) → wP Z (X6, M, O) H → va_S (wA Z s.heap.size) s.heap H locs → lv_has ls 3 [(2, .int v5), (0, .ref (Z.2.2 4 i0)), (1, .ref (Z.2.2 4 i1))] → W p l e (headSpec ws_X4_take rm_X4_take).room s m args below meth c H locs 0 0 (vx_MQ below (cQv Z (Xz, M, O) (.inl ()) s.heap.size) (cX Z (Xz, M, O) (.inl () : Unit ⊕ String) s.heap.size) args s 0 0 (wA Z s.heap.size)) (F0 m 18 ls []) := by
    intro n
    induction n with
    | zero =>
      intro v5 X6 H locs ls hk
      rw [f_X4_take_L18] at hk
      exact nomatch (show none = some _ from hk)
    | succ n ih =>
      intro v5 X6 H locs ls hk hP hS hl
      rw [f_X4_take_L18] at hk
      refine lv_iload_n hx hb dX4_take_18 rfl (lv_at hl 0 rfl) ?_
      refine lv_aload_n hx hb dX4_take_19 rfl (lv_at hl 1 rfl) ?_
      refine gf_RX4_18 hx hb hts hown hK hP hi0 dX4_take_20 ?_
      refine lv_icmp_ge (tgt := 44) hx hb dX4_take_23 (by decide) (fun cz15 => ?_) (fun cz15 => ?_)
      · have hk := it_t cz15 hk
        exact ex3 X6 _ _ _ hk hP hS (lv_sub hl [1, 2] rfl)
      · have hk := it_f cz15 hk
        refine lv_aload_n hx hb dX4_take_26 rfl (lv_at hl 1 rfl) ?_
        refine gf_RX4_9 hx hb hts hown hK hP hi0 dX4_take_27 ?_
        refine lv_iload_n hx hb dX4_take_30 rfl (lv_at hl 0 rfl) ?_
        refine lv_aload_n hx hb dX4_take_31 rfl (lv_at hl 2 rfl) ?_
        refine gf_RX4_9 hx hb hts hown hK hP hi1 dX4_take_32 ?_
        refine lv_iload_n hx hb dX4_take_35 rfl (lv_at hl 0 rfl) ?_
        obtain ⟨hg16, hk⟩ := gd_s hk
        refine wa_iaload_5 hx hb hK hP hi1 hg16 dX4_take_36 ?_
        obtain ⟨hg17, hk⟩ := gd_s hk
        obtain ⟨X18, eX18, hk⟩ := lq_s hk
        refine wa_iastore_5 hx hb hZ hK hP hS hi0 hg17 dX4_take_37 (fun H locs hP hS => ?_)
        rw [← eX18] at hP
        refine lv_iinc (v := (v5 + (1 : Int32))) (lv' := [(2, .int (v5 + (1 : Int32))), (0, .ref (Z.2.2 4 i0)), (1, .ref (Z.2.2 4 i1))]) hx hb dX4_take_38 hl (k := 0) rfl rfl (by decide) rfl (fun ls hl => ?_)
        refine lv_goto (tgt := 18) hx hb dX4_take_41 (by decide) ?_
        exact ih (v5 + (1 : Int32)) X18 _ _ _ hk hP hS (lv_sub hl [0, 1, 2] rfl)
  exact lp3 1000 (0 : Int32) X2 _ _ _ hk hP hS (lv_sub hl [0, 1, 2] rfl)
set_option maxHeartbeats 4000000 in
set_option maxRecDepth 100000 in
theorem k_X5_regain (l : Launch) (hfl : l.stackTraces = false) (Z : ZT) (hZ : wD Z) (X M O : SS) (i0 : Nat) (i1 : Nat) (hi0 : i0 < 40) (hi1 : i1 < 71) (Xz : SS) (r : Unit) (hf : f_X5_regain X i0 i1 = some (Xz, r)) (sz : Nat) : vx_Met l yX5_regain ws_X5_regain rm_X5_regain (va_Pc [.ref (Z.2.2 12 i0), .ref (Z.2.2 1 i1)] (cP Z (X, M, O) sz)) (cQv Z (Xz, M, O) (.inl ()) sz) (cX Z (Xz, M, O) (.inl () : Unit ⊕ String) sz) 0 0 (wA Z sz) := by
  refine vx_ofW (cc := cX5_regain) (maxL := 2) (ret := none) (by decide) rfl ?_
  intro p e s m args below meth c s₁ B hml htab hv
  obtain ⟨hargs, hsz, hE, hP, hK⟩ := hv
  have hx := B.exec
  have hb := B.bytes
  have hr := B.returns
  have hts0 := atoms_spec (ws := ws_X5_regain) B.pre
  have hts : ∀ w ∈ lw_all, w.before args s = true := fun w h => hts0 w (List.mem_cons_of_mem _ h)
  have hown : s.vm.findClass RX5 = some m.cls := findClass_of_methodNamed B.named
  have hlocks := B.notSynchronized
  have hout9 : ∀ (pc9 : Nat), ∀ x ∈ c.exceptionTable.toList, covers x pc9 = false := fun _ x hx9 => (htab x hx9).elim
  subst hsz
  have hS : va_S (wA Z s.heap.size) s.heap s.heap [] := va_S.rf
  have hl := lv_entry ([.ref (Z.2.2 12 i0), .ref (Z.2.2 1 i1)]) (n := 2) (Nat.le_of_ble_eq_true rfl)
  have hen : entryFrame m args 2 = entryFrame m ([.ref (Z.2.2 12 i0), .ref (Z.2.2 1 i1)] : List Value).toArray 2 := by rw [hargs]
  rw [hen, lg_entry_eq]
  generalize (lg_sl ([.ref (Z.2.2 12 i0), .ref (Z.2.2 1 i1)]) ++ List.replicate (2 - (lg_sl ([.ref (Z.2.2 12 i0), .ref (Z.2.2 1 i1)])).length) Slot.unset).toArray = ls at hl ⊢
  have hl : lv_has ls 2 [(0, .ref (Z.2.2 12 i0)), (1, .ref (Z.2.2 1 i1))] := hl
  have hk := hf
  unfold f_X5_regain at hk
  refine lv_aload_n hx hb dX5_regain_0 rfl (lv_at hl 0 rfl) ?_
  refine gf_RX5_12 hx hb hts hown hK hP hi0 dX5_regain_1 ?_
  refine lv_aload_n hx hb dX5_regain_4 rfl (lv_at hl 1 rfl) ?_
  obtain ⟨X2, v1, hf3, hk⟩ := b1_s hk
  refine wc_vV0 (rest := []) (As := [.ref (Z.2.2 1 i1)]) ⟨hx, hb, hml, hown, hts⟩ (fun sz => k_X3_take l hfl Z hZ X M O (i0 + 1) i1 (lt_B hi0) hi1 X2 v1 hf3 sz) (cw_RX5_80 (args := args) (s := s) hts (Nat.le_of_ble_eq_true rfl) (Nat.le_of_ble_eq_true rfl)) hE hP hK hS (rv_1 hK hP (lt_B hi0)) rfl hl.1 rfl (Nat.le_of_ble_eq_true rfl) dX5_regain_5 ⟨Nat.le_of_ble_eq_true rfl, Nat.le_of_ble_eq_true rfl⟩ (fun H locs hP hS => ?_)
  refine lv_aload_n hx hb dX5_regain_8 rfl (lv_at hl 0 rfl) ?_
  refine lv_iconst (v := (1 : Int32)) hx hb dX5_regain_9 (by decide) ?_
  obtain ⟨X4, eX4, hk⟩ := lq_s hk
  refine pf_RX5_55 hx hb hts hown hZ hK hP hS hi0 (by unfold okz; decide) dX5_regain_10 (fun H locs hP hS => ?_)
  rw [← eX4] at hP
  cases (show some _ = some _ from hk)
  exact we_v hx hb hr hlocks hP rfl hS dX5_regain_13 (by decide) (by decide)
set_option maxHeartbeats 4000000 in
set_option maxRecDepth 100000 in
theorem k_X5_begin (l : Launch) (hfl : l.stackTraces = false) (Z : ZT) (hZ : wD Z) (X M O : SS) (i0 : Nat) (p0 : Int32) (p1 : Int32) (i3 : Nat) (hi0 : i0 < 40) (hi3 : i3 < 71) (Xz : SS) (r : Unit) (hf : f_X5_begin X i0 p0 p1 i3 = some (Xz, r)) (sz : Nat) : vx_Met l yX5_begin ws_X5_begin rm_X5_begin (va_Pc [.ref (Z.2.2 12 i0), .int p0, .int p1, .ref (Z.2.2 1 i3)] (cP Z (X, M, O) sz)) (cQv Z (Xz, M, O) (.inl ()) sz) (cX Z (Xz, M, O) (.inl () : Unit ⊕ String) sz) 0 0 (wA Z sz) := by
  refine vx_ofW (cc := cX5_begin) (maxL := 4) (ret := none) (by decide) rfl ?_
  intro p e s m args below meth c s₁ B hml htab hv
  obtain ⟨hargs, hsz, hE, hP, hK⟩ := hv
  have hx := B.exec
  have hb := B.bytes
  have hr := B.returns
  have hts0 := atoms_spec (ws := ws_X5_begin) B.pre
  have hts : ∀ w ∈ lw_all, w.before args s = true := fun w h => hts0 w (List.mem_cons_of_mem _ h)
  have hown : s.vm.findClass RX5 = some m.cls := findClass_of_methodNamed B.named
  have hlocks := B.notSynchronized
  have hout9 : ∀ (pc9 : Nat), ∀ x ∈ c.exceptionTable.toList, covers x pc9 = false := fun _ x hx9 => (htab x hx9).elim
  subst hsz
  have hS : va_S (wA Z s.heap.size) s.heap s.heap [] := va_S.rf
  have hl := lv_entry ([.ref (Z.2.2 12 i0), .int p0, .int p1, .ref (Z.2.2 1 i3)]) (n := 4) (Nat.le_of_ble_eq_true rfl)
  have hen : entryFrame m args 4 = entryFrame m ([.ref (Z.2.2 12 i0), .int p0, .int p1, .ref (Z.2.2 1 i3)] : List Value).toArray 4 := by rw [hargs]
  rw [hen, lg_entry_eq]
  generalize (lg_sl ([.ref (Z.2.2 12 i0), .int p0, .int p1, .ref (Z.2.2 1 i3)]) ++ List.replicate (4 - (lg_sl ([.ref (Z.2.2 12 i0), .int p0, .int p1, .ref (Z.2.2 1 i3)])).length) Slot.unset).toArray = ls at hl ⊢
  have hl : lv_has ls 4 [(0, .ref (Z.2.2 12 i0)), (1, .int p0), (2, .int p1), (3, .ref (Z.2.2 1 i3))] := hl
  have hk := hf
  unfold f_X5_begin at hk
  refine lv_aload_n hx hb dX5_begin_0 rfl (lv_at hl 0 rfl) ?_
  refine lv_iload_n hx hb dX5_begin_1 rfl (lv_at hl 1 rfl) ?_
  obtain ⟨X1, eX1, hk⟩ := lq_s hk
  refine pf_RX5_38 hx hb hts hown hZ hK hP hS hi0 dX5_begin_2 (fun H locs hP hS => ?_)
  rw [← eX1] at hP
  refine lv_aload_n hx hb dX5_begin_5 rfl (lv_at hl 0 rfl) ?_
  refine lv_iload_n hx hb dX5_begin_6 rfl (lv_at hl 2 rfl) ?_
  obtain ⟨X2, eX2, hk⟩ := lq_s hk
  refine pf_RX5_41 hx hb hts hown hZ hK hP hS hi0 dX5_begin_7 (fun H locs hP hS => ?_)
  rw [← eX2] at hP
  refine lv_aload_n hx hb dX5_begin_10 rfl (lv_at hl 0 rfl) ?_
  refine lv_aload_n hx hb dX5_begin_11 rfl (lv_at hl 3 rfl) ?_
  refine gf_RX5_71 hx hb hts hown hK hP hi3 dX5_begin_12 ?_
  obtain ⟨X3, eX3, hk⟩ := lq_s hk
  refine pf_RX5_44 hx hb hts hown hZ hK hP hS hi0 dX5_begin_15 (fun H locs hP hS => ?_)
  rw [← eX3] at hP
  refine lv_aload_n hx hb dX5_begin_18 rfl (lv_at hl 0 rfl) ?_
  refine lv_aload_n hx hb dX5_begin_19 rfl (lv_at hl 3 rfl) ?_
  obtain ⟨v4, hf5, hk⟩ := b0_s hk
  refine wc_lV0 (rest := [.ref (Z.2.2 12 i0)]) (As := []) ⟨hx, hb, hml, hown, hts⟩ (fun sz => k_X3_sumOfAll l hfl Z hZ X3 M O i3 hi3 v4 hf5 sz) (cw_RX5_72 (args := args) (s := s) hts (Nat.le_of_ble_eq_true rfl) (Nat.le_of_ble_eq_true rfl)) hE hP hK hS (rv_1 hK hP hi3) rfl hl.1 rfl (Nat.le_of_ble_eq_true rfl) dX5_begin_20 ⟨Nat.le_of_ble_eq_true rfl, Nat.le_of_ble_eq_true rfl⟩ (fun H locs hP hS => ?_)
  obtain ⟨X6, eX6, hk⟩ := lq_s hk
  refine pf_RX5_47 hx hb hts hown hZ hK hP hS hi0 dX5_begin_23 (fun H locs hP hS => ?_)
  rw [← eX6] at hP
  refine lv_aload_n hx hb dX5_begin_26 rfl (lv_at hl 0 rfl) ?_
  refine lv_bipush (v := (115 : Int32)) hx hb dX5_begin_27 (by decide) ?_
  obtain ⟨X7, eX7, hk⟩ := lq_s hk
  refine pf_RX5_51 hx hb hts hown hZ hK hP hS hi0 (by unfold okc; decide) dX5_begin_29 (fun H locs hP hS => ?_)
  rw [← eX7] at hP
  refine lv_aload_n hx hb dX5_begin_32 rfl (lv_at hl 0 rfl) ?_
  refine lv_aload_n hx hb dX5_begin_33 rfl (lv_at hl 3 rfl) ?_
  obtain ⟨X9, v8, hf10, hk⟩ := b1_s hk
  refine wc_vV0 (rest := []) (As := [.ref (Z.2.2 1 i3)]) ⟨hx, hb, hml, hown, hts⟩ (fun sz => k_X5_regain l hfl Z hZ X7 M O i0 i3 hi0 hi3 X9 v8 hf10 sz) (cw_RX5_76 (args := args) (s := s) hts (Nat.le_of_ble_eq_true rfl) (Nat.le_of_ble_eq_true rfl)) hE hP hK hS (rv_12 hK hP hi0) rfl hl.1 rfl (Nat.le_of_ble_eq_true rfl) dX5_begin_34 ⟨Nat.le_of_ble_eq_true rfl, Nat.le_of_ble_eq_true rfl⟩ (fun H locs hP hS => ?_)
  cases (show some _ = some _ from hk)
  exact we_v hx hb hr hlocks hP rfl hS dX5_begin_37 (by decide) (by decide)
set_option maxHeartbeats 4000000 in
set_option maxRecDepth 100000 in
theorem k_X5_isCounted (l : Launch) (hfl : l.stackTraces = false) (Z : ZT) (hZ : wD Z) (X M O : SS) (i0 : Nat) (hi0 : i0 < 40) (r : Int32) (hf : f_X5_isCounted X i0 = some (r)) (sz : Nat) : vx_Met l yX5_isCounted ws_X5_isCounted rm_X5_isCounted (va_Pc [.ref (Z.2.2 12 i0)] (cP Z (X, M, O) sz)) (cQi Z (X, M, O) (.inl r) sz) (cX Z (X, M, O) (.inl r : Int32 ⊕ String) sz) 0 0 (wA Z sz) := by
  refine vx_ofW (cc := cX5_isCounted) (maxL := 1) (ret := (some .boolean)) (by decide) rfl ?_
  intro p e s m args below meth c s₁ B hml htab hv
  obtain ⟨hargs, hsz, hE, hP, hK⟩ := hv
  have hx := B.exec
  have hb := B.bytes
  have hr := B.returns
  have hts0 := atoms_spec (ws := ws_X5_isCounted) B.pre
  have hts : ∀ w ∈ lw_all, w.before args s = true := fun w h => hts0 w (List.mem_cons_of_mem _ h)
  have hown : s.vm.findClass RX5 = some m.cls := findClass_of_methodNamed B.named
  have hlocks := B.notSynchronized
  have hout9 : ∀ (pc9 : Nat), ∀ x ∈ c.exceptionTable.toList, covers x pc9 = false := fun _ x hx9 => (htab x hx9).elim
  subst hsz
  have hS : va_S (wA Z s.heap.size) s.heap s.heap [] := va_S.rf
  have hl := lv_entry ([.ref (Z.2.2 12 i0)]) (n := 1) (Nat.le_of_ble_eq_true rfl)
  have hen : entryFrame m args 1 = entryFrame m ([.ref (Z.2.2 12 i0)] : List Value).toArray 1 := by rw [hargs]
  rw [hen, lg_entry_eq]
  generalize (lg_sl ([.ref (Z.2.2 12 i0)]) ++ List.replicate (1 - (lg_sl ([.ref (Z.2.2 12 i0)])).length) Slot.unset).toArray = ls at hl ⊢
  have hl : lv_has ls 1 [(0, .ref (Z.2.2 12 i0))] := hl
  have hk := hf
  unfold f_X5_isCounted at hk
  refine lv_aload_n hx hb dX5_isCounted_0 rfl (lv_at hl 0 rfl) ?_
  refine gf_RX5_51 hx hb hts hown hK hP hi0 dX5_isCounted_1 ?_
  refine lv_bipush (v := (115 : Int32)) hx hb dX5_isCounted_4 (by decide) ?_
  refine lv_icmp_eq (tgt := 27) hx hb dX5_isCounted_6 (by decide) (fun cz1 => ?_) (fun cz1 => ?_)
  · have hk := it_t cz1 hk
    refine lv_iconst (v := (1 : Int32)) hx hb dX5_isCounted_27 (by decide) ?_
    refine lv_goto (tgt := 32) hx hb dX5_isCounted_28 (by decide) ?_
    cases (show some _ = some _ from hk)
    exact we_z hx hb hr hlocks (show okz (1 : Int32) by unfold okz; decide).1 hP rfl hS dX5_isCounted_32 (by decide) (by decide)
  · have hk := it_f cz1 hk
    refine lv_aload_n hx hb dX5_isCounted_9 rfl (lv_at hl 0 rfl) ?_
    refine gf_RX5_51 hx hb hts hown hK hP hi0 dX5_isCounted_10 ?_
    refine lv_bipush (v := (112 : Int32)) hx hb dX5_isCounted_13 (by decide) ?_
    refine lv_icmp_eq (tgt := 27) hx hb dX5_isCounted_15 (by decide) (fun cz2 => ?_) (fun cz2 => ?_)
    · have hk := it_t cz2 hk
      refine lv_iconst (v := (1 : Int32)) hx hb dX5_isCounted_27 (by decide) ?_
      refine lv_goto (tgt := 32) hx hb dX5_isCounted_28 (by decide) ?_
      cases (show some _ = some _ from hk)
      exact we_z hx hb hr hlocks (show okz (1 : Int32) by unfold okz; decide).1 hP rfl hS dX5_isCounted_32 (by decide) (by decide)
    · have hk := it_f cz2 hk
      refine lv_aload_n hx hb dX5_isCounted_18 rfl (lv_at hl 0 rfl) ?_
      refine gf_RX5_51 hx hb hts hown hK hP hi0 dX5_isCounted_19 ?_
      refine lv_bipush (v := (99 : Int32)) hx hb dX5_isCounted_22 (by decide) ?_
      refine lv_icmp_ne (tgt := 31) hx hb dX5_isCounted_24 (by decide) (fun cz3 => ?_) (fun cz3 => ?_)
      · have hk := it_f cz3 hk
        refine lv_iconst (v := (0 : Int32)) hx hb dX5_isCounted_31 (by decide) ?_
        cases (show some _ = some _ from hk)
        exact we_z hx hb hr hlocks (show okz (0 : Int32) by unfold okz; decide).1 hP rfl hS dX5_isCounted_32 (by decide) (by decide)
      · have hk := it_t cz3 hk
        refine lv_iconst (v := (1 : Int32)) hx hb dX5_isCounted_27 (by decide) ?_
        refine lv_goto (tgt := 32) hx hb dX5_isCounted_28 (by decide) ?_
        cases (show some _ = some _ from hk)
        exact we_z hx hb hr hlocks (show okz (1 : Int32) by unfold okz; decide).1 hP rfl hS dX5_isCounted_32 (by decide) (by decide)
set_option maxHeartbeats 4000000 in
set_option maxRecDepth 100000 in
theorem k_X5_takeVote (l : Launch) (hfl : l.stackTraces = false) (Z : ZT) (hZ : wD Z) (X M O : SS) (i0 : Nat) (p0 : Int32) (p1 : Int32) (p2 : Int32) (hi0 : i0 < 40) (Xz : SS) (r : Unit) (hf : f_X5_takeVote X i0 p0 p1 p2 = some (Xz, r)) (sz : Nat) : vx_Met l yX5_takeVote ws_X5_takeVote rm_X5_takeVote (va_Pc [.ref (Z.2.2 12 i0), .int p0, .int p1, .int p2] (cP Z (X, M, O) sz)) (cQv Z (Xz, M, O) (.inl ()) sz) (cX Z (Xz, M, O) (.inl () : Unit ⊕ String) sz) 0 0 (wA Z sz) := by
  refine vx_ofW (cc := cX5_takeVote) (maxL := 4) (ret := none) (by decide) rfl ?_
  intro p e s m args below meth c s₁ B hml htab hv
  obtain ⟨hargs, hsz, hE, hP, hK⟩ := hv
  have hx := B.exec
  have hb := B.bytes
  have hr := B.returns
  have hts0 := atoms_spec (ws := ws_X5_takeVote) B.pre
  have hts : ∀ w ∈ lw_all, w.before args s = true := fun w h => hts0 w (List.mem_cons_of_mem _ h)
  have hown : s.vm.findClass RX5 = some m.cls := findClass_of_methodNamed B.named
  have hlocks := B.notSynchronized
  have hout9 : ∀ (pc9 : Nat), ∀ x ∈ c.exceptionTable.toList, covers x pc9 = false := fun _ x hx9 => (htab x hx9).elim
  subst hsz
  have hS : va_S (wA Z s.heap.size) s.heap s.heap [] := va_S.rf
  have hl := lv_entry ([.ref (Z.2.2 12 i0), .int p0, .int p1, .int p2]) (n := 4) (Nat.le_of_ble_eq_true rfl)
  have hen : entryFrame m args 4 = entryFrame m ([.ref (Z.2.2 12 i0), .int p0, .int p1, .int p2] : List Value).toArray 4 := by rw [hargs]
  rw [hen, lg_entry_eq]
  generalize (lg_sl ([.ref (Z.2.2 12 i0), .int p0, .int p1, .int p2]) ++ List.replicate (4 - (lg_sl ([.ref (Z.2.2 12 i0), .int p0, .int p1, .int p2])).length) Slot.unset).toArray = ls at hl ⊢
  have hl : lv_has ls 4 [(0, .ref (Z.2.2 12 i0)), (1, .int p0), (2, .int p1), (3, .int p2)] := hl
  have hk := hf
  unfold f_X5_takeVote at hk
  refine lv_aload_n hx hb dX5_takeVote_0 rfl (lv_at hl 0 rfl) ?_
  refine lv_dup hx hb dX5_takeVote_1 rfl ?_
  refine gf_RX5_28 hx hb hts hown hK hP hi0 dX5_takeVote_2 ?_
  refine lv_aload_n hx hb dX5_takeVote_5 rfl (lv_at hl 0 rfl) ?_
  refine gf_RX5_22 hx hb hts hown hK hP hi0 dX5_takeVote_6 ?_
  refine lv_iload_n hx hb dX5_takeVote_9 rfl (lv_at hl 1 rfl) ?_
  obtain ⟨hg1, hk⟩ := gd_s hk
  refine wa_iaload_14 hx hb hK hP hi0 hg1 dX5_takeVote_10 ?_
  have jn3 : ∀ (v2 : Int32) (H : Heap) (locs : List Loc) (ls : Array Slot), f_X5_takeVote_J19 X i0 p0 p2 p1 v2 = some (Xz, r) → wP Z (X, M, O) H → va_S (wA Z s.heap.size) s.heap H locs → lv_has ls 4 [(0, .ref (Z.2.2 12 i0)), (1, .int p0), (2, .int p1), (3, .int p2)] → W p l e (headSpec ws_X5_takeVote rm_X5_takeVote).room s m args below meth c H locs 0 0 (vx_MQ below (cQv Z (Xz, M, O) (.inl ()) s.heap.size) (cX Z (Xz, M, O) (.inl () : Unit ⊕ String) s.heap.size) args s 0 0 (wA Z s.heap.size)) (F0 m 19 ls [.int v2, .int (X.1 12 i0 4), .ref (Z.2.2 12 i0)]) := by
    intro v2 H locs ls hk hP hS hl
    unfold f_X5_takeVote_J19 at hk
    refine lv_iadd hx hb dX5_takeVote_19 ?_
    obtain ⟨X4, eX4, hk⟩ := lq_s hk
    refine pf_RX5_28 hx hb hts hown hZ hK hP hS hi0 dX5_takeVote_20 (fun H locs hP hS => ?_)
    rw [← eX4] at hP
    refine lv_aload_n hx hb dX5_takeVote_23 rfl (lv_at hl 0 rfl) ?_
    refine lv_dup hx hb dX5_takeVote_24 rfl ?_
    refine gf_RX5_32 hx hb hts hown hK hP hi0 dX5_takeVote_25 ?_
    refine lv_iload_n hx hb dX5_takeVote_28 rfl (lv_at hl 3 rfl) ?_
    refine lv_aload_n hx hb dX5_takeVote_29 rfl (lv_at hl 0 rfl) ?_
    refine gf_RX5_25 hx hb hts hown hK hP hi0 dX5_takeVote_30 ?_
    refine lv_iload_n hx hb dX5_takeVote_33 rfl (lv_at hl 1 rfl) ?_
    obtain ⟨hg5, hk⟩ := gd_s hk
    refine wa_iaload_15 hx hb hK hP hi0 hg5 dX5_takeVote_34 ?_
    refine lv_isub hx hb dX5_takeVote_35 ?_
    refine lv_iadd hx hb dX5_takeVote_36 ?_
    obtain ⟨X6, eX6, hk⟩ := lq_s hk
    refine pf_RX5_32 hx hb hts hown hZ hK hP hS hi0 dX5_takeVote_37 (fun H locs hP hS => ?_)
    rw [← eX6] at hP
    refine lv_aload_n hx hb dX5_takeVote_40 rfl (lv_at hl 0 rfl) ?_
    refine lv_dup hx hb dX5_takeVote_41 rfl ?_
    refine gf_RX5_35 hx hb hts hown hK hP hi0 dX5_takeVote_42 ?_
    refine lv_iload_n hx hb dX5_takeVote_45 rfl (lv_at hl 2 rfl) ?_
    refine lv_iload_n hx hb dX5_takeVote_46 rfl (lv_at hl 3 rfl) ?_
    refine lv_imul hx hb dX5_takeVote_47 ?_
    refine lv_aload_n hx hb dX5_takeVote_48 rfl (lv_at hl 0 rfl) ?_
    refine gf_RX5_22 hx hb hts hown hK hP hi0 dX5_takeVote_49 ?_
    refine lv_iload_n hx hb dX5_takeVote_52 rfl (lv_at hl 1 rfl) ?_
    obtain ⟨hg7, hk⟩ := gd_s hk
    refine wa_iaload_14 hx hb hK hP hi0 hg7 dX5_takeVote_53 ?_
    refine lv_aload_n hx hb dX5_takeVote_54 rfl (lv_at hl 0 rfl) ?_
    refine gf_RX5_25 hx hb hts hown hK hP hi0 dX5_takeVote_55 ?_
    refine lv_iload_n hx hb dX5_takeVote_58 rfl (lv_at hl 1 rfl) ?_
    obtain ⟨hg8, hk⟩ := gd_s hk
    refine wa_iaload_15 hx hb hK hP hi0 hg8 dX5_takeVote_59 ?_
    refine lv_imul hx hb dX5_takeVote_60 ?_
    refine lv_isub hx hb dX5_takeVote_61 ?_
    refine lv_iadd hx hb dX5_takeVote_62 ?_
    obtain ⟨X9, eX9, hk⟩ := lq_s hk
    refine pf_RX5_35 hx hb hts hown hZ hK hP hS hi0 dX5_takeVote_63 (fun H locs hP hS => ?_)
    rw [← eX9] at hP
    refine lv_aload_n hx hb dX5_takeVote_66 rfl (lv_at hl 0 rfl) ?_
    refine gf_RX5_22 hx hb hts hown hK hP hi0 dX5_takeVote_67 ?_
    refine lv_iload_n hx hb dX5_takeVote_70 rfl (lv_at hl 1 rfl) ?_
    refine lv_iload_n hx hb dX5_takeVote_71 rfl (lv_at hl 2 rfl) ?_
    obtain ⟨hg10, hk⟩ := gd_s hk
    obtain ⟨X11, eX11, hk⟩ := lq_s hk
    refine wa_iastore_14 hx hb hZ hK hP hS hi0 hg10 dX5_takeVote_72 (fun H locs hP hS => ?_)
    rw [← eX11] at hP
    refine lv_aload_n hx hb dX5_takeVote_73 rfl (lv_at hl 0 rfl) ?_
    refine gf_RX5_25 hx hb hts hown hK hP hi0 dX5_takeVote_74 ?_
    refine lv_iload_n hx hb dX5_takeVote_77 rfl (lv_at hl 1 rfl) ?_
    refine lv_iload_n hx hb dX5_takeVote_78 rfl (lv_at hl 3 rfl) ?_
    obtain ⟨hg12, hk⟩ := gd_s hk
    obtain ⟨X13, eX13, hk⟩ := lq_s hk
    refine wa_iastore_15 hx hb hZ hK hP hS hi0 hg12 dX5_takeVote_79 (fun H locs hP hS => ?_)
    rw [← eX13] at hP
    cases (show some _ = some _ from hk)
    exact we_v hx hb hr hlocks hP rfl hS dX5_takeVote_80 (by decide) (by decide)
  refine lv_if_ne (tgt := 18) hx hb dX5_takeVote_11 (by decide) (fun cz14 => ?_) (fun cz14 => ?_)
  · have hk := it_f cz14 hk
    refine lv_iconst (v := (0 : Int32)) hx hb dX5_takeVote_18 (by decide) ?_
    exact jn3 (0 : Int32) _ _ _ hk hP hS (lv_sub hl [0, 1, 2, 3] rfl)
  · have hk := it_t cz14 hk
    refine lv_iconst (v := (1 : Int32)) hx hb dX5_takeVote_14 (by decide) ?_
    refine lv_goto (tgt := 19) hx hb dX5_takeVote_15 (by decide) ?_
    exact jn3 (1 : Int32) _ _ _ hk hP hS (lv_sub hl [0, 1, 2, 3] rfl)
set_option maxHeartbeats 4000000 in
set_option maxRecDepth 100000 in
theorem k_X5_areSumsOfVotes (l : Launch) (hfl : l.stackTraces = false) (Z : ZT) (hZ : wD Z) (X M O : SS) (i0 : Nat) (hi0 : i0 < 40) (r : Int32) (hf : f_X5_areSumsOfVotes X i0 = some (r)) (sz : Nat) : vx_Met l yX5_areSumsOfVotes ws_X5_areSumsOfVotes rm_X5_areSumsOfVotes (va_Pc [.ref (Z.2.2 12 i0)] (cP Z (X, M, O) sz)) (cQi Z (X, M, O) (.inl r) sz) (cX Z (X, M, O) (.inl r : Int32 ⊕ String) sz) 0 0 (wA Z sz) := by
  refine vx_ofW (cc := cX5_areSumsOfVotes) (maxL := 4) (ret := (some .boolean)) (by decide) rfl ?_
  intro p e s m args below meth c s₁ B hml htab hv
  obtain ⟨hargs, hsz, hE, hP, hK⟩ := hv
  have hx := B.exec
  have hb := B.bytes
  have hr := B.returns
  have hts0 := atoms_spec (ws := ws_X5_areSumsOfVotes) B.pre
  have hts : ∀ w ∈ lw_all, w.before args s = true := fun w h => hts0 w (List.mem_cons_of_mem _ h)
  have hown : s.vm.findClass RX5 = some m.cls := findClass_of_methodNamed B.named
  have hlocks := B.notSynchronized
  have hout9 : ∀ (pc9 : Nat), ∀ x ∈ c.exceptionTable.toList, covers x pc9 = false := fun _ x hx9 => (htab x hx9).elim
  subst hsz
  have hS : va_S (wA Z s.heap.size) s.heap s.heap [] := va_S.rf
  have hl := lv_entry ([.ref (Z.2.2 12 i0)]) (n := 4) (Nat.le_of_ble_eq_true rfl)
  have hen : entryFrame m args 4 = entryFrame m ([.ref (Z.2.2 12 i0)] : List Value).toArray 4 := by rw [hargs]
  rw [hen, lg_entry_eq]
  generalize (lg_sl ([.ref (Z.2.2 12 i0)]) ++ List.replicate (4 - (lg_sl ([.ref (Z.2.2 12 i0)])).length) Slot.unset).toArray = ls at hl ⊢
  have hl : lv_has ls 4 [(0, .ref (Z.2.2 12 i0))] := hl
  have hk := hf
  unfold f_X5_areSumsOfVotes at hk
  refine lv_iconst (v := (0 : Int32)) hx hb dX5_areSumsOfVotes_0 (by decide) ?_
  refine lv_istore_n (lv' := [(1, .int (0 : Int32)), (0, .ref (Z.2.2 12 i0))]) hx hb dX5_areSumsOfVotes_1 rfl hl (by decide) rfl (fun ls hl => ?_)
  refine lv_iconst (v := (0 : Int32)) hx hb dX5_areSumsOfVotes_2 (by decide) ?_
  refine lv_istore_n (lv' := [(2, .int (0 : Int32)), (1, .int (0 : Int32)), (0, .ref (Z.2.2 12 i0))]) hx hb dX5_areSumsOfVotes_3 rfl hl (by decide) rfl (fun ls hl => ?_)
  refine lv_bipush (v := (9 : Int32)) hx hb dX5_areSumsOfVotes_4 (by decide) ?_
  refine lv_istore_n (lv' := [(3, .int (9 : Int32)), (2, .int (0 : Int32)), (1, .int (0 : Int32)), (0, .ref (Z.2.2 12 i0))]) hx hb dX5_areSumsOfVotes_6 rfl hl (by decide) rfl (fun ls hl => ?_)
  obtain ⟨k1, hk1, hk⟩ := gn hk
  have ex1 : ∀ (v2 : Int32) (v3 : Int32) (H : Heap) (locs : List Loc) (ls : Array Slot), k1 v2 v3 = some (r) → wP Z (X, M, O) H → va_S (wA Z s.heap.size) s.heap H locs → lv_has ls 4 [(2, .int v2), (1, .int v3), (0, .ref (Z.2.2 12 i0))] → W p l e (headSpec ws_X5_areSumsOfVotes rm_X5_areSumsOfVotes).room s m args below meth c H locs 0 0 (vx_MQ below (cQi Z (X, M, O) (.inl r) s.heap.size) (cX Z (X, M, O) (.inl r : Int32 ⊕ String) s.heap.size) args s 0 0 (wA Z s.heap.size)) (F0 m 42 ls []) := by
    intro v2 v3 H locs ls hk hP hS hl
    subst hk1
    refine lv_iload_n hx hb dX5_areSumsOfVotes_42 rfl (lv_at hl 1 rfl) ?_
    refine lv_aload_n hx hb dX5_areSumsOfVotes_43 rfl (lv_at hl 2 rfl) ?_
    refine gf_RX5_32 hx hb hts hown hK hP hi0 dX5_areSumsOfVotes_44 ?_
    refine lv_icmp_ne (tgt := 62) hx hb dX5_areSumsOfVotes_47 (by decide) (fun cz7 => ?_) (fun cz7 => ?_)
    · have hk := it_f cz7 hk
      refine lv_iconst (v := (0 : Int32)) hx hb dX5_areSumsOfVotes_62 (by decide) ?_
      cases (show some _ = some _ from hk)
      exact we_z hx hb hr hlocks (show okz (0 : Int32) by unfold okz; decide).1 hP rfl hS dX5_areSumsOfVotes_63 (by decide) (by decide)
    · have hk := it_t cz7 hk
      refine lv_iload_n hx hb dX5_areSumsOfVotes_50 rfl (lv_at hl 0 rfl) ?_
      refine lv_aload_n hx hb dX5_areSumsOfVotes_51 rfl (lv_at hl 2 rfl) ?_
      refine gf_RX5_35 hx hb hts hown hK hP hi0 dX5_areSumsOfVotes_52 ?_
      refine lv_icmp_ne (tgt := 62) hx hb dX5_areSumsOfVotes_55 (by decide) (fun cz8 => ?_) (fun cz8 => ?_)
      · have hk := it_f cz8 hk
        refine lv_iconst (v := (0 : Int32)) hx hb dX5_areSumsOfVotes_62 (by decide) ?_
        cases (show some _ = some _ from hk)
        exact we_z hx hb hr hlocks (show okz (0 : Int32) by unfold okz; decide).1 hP rfl hS dX5_areSumsOfVotes_63 (by decide) (by decide)
      · have hk := it_t cz8 hk
        refine lv_iconst (v := (1 : Int32)) hx hb dX5_areSumsOfVotes_58 (by decide) ?_
        refine lv_goto (tgt := 63) hx hb dX5_areSumsOfVotes_59 (by decide) ?_
        cases (show some _ = some _ from hk)
        exact we_z hx hb hr hlocks (show okz (1 : Int32) by unfold okz; decide).1 hP rfl hS dX5_areSumsOfVotes_63 (by decide) (by decide)
  have lp1 : ∀ (n : Nat) (v4 : Int32) (v5 : Int32) (v6 : Int32) (H : Heap) (locs : List Loc) (ls : Array Slot), f_X5_areSumsOfVotes_L7 X i0 n v4 v5 v6 k1 = some (r) → wP Z (X, M, O) H → va_S (wA Z s.heap.size) s.heap H locs → lv_has ls 4 [(3, .int v4), (2, .int v5), (1, .int v6), (0, .ref (Z.2.2 12 i0))] → W p l e (headSpec ws_X5_areSumsOfVotes rm_X5_areSumsOfVotes).room s m args below meth c H locs 0 0 (vx_MQ below (cQi Z (X, M, O) (.inl r) s.heap.size) (cX Z (X, M, O) (.inl r : Int32 ⊕ String) s.heap.size) args s 0 0 (wA Z s.heap.size)) (F0 m 7 ls []) := by
    intro n
    induction n with
    | zero =>
      intro v4 v5 v6 H locs ls hk
      rw [f_X5_areSumsOfVotes_L7] at hk
      exact nomatch (show none = some _ from hk)
    | succ n ih =>
      intro v4 v5 v6 H locs ls hk hP hS hl
      rw [f_X5_areSumsOfVotes_L7] at hk
      refine lv_iload_n hx hb dX5_areSumsOfVotes_7 rfl (lv_at hl 0 rfl) ?_
      refine lv_if_lt (tgt := 42) hx hb dX5_areSumsOfVotes_8 (by decide) (fun cz9 => ?_) (fun cz9 => ?_)
      · have hk := it_t cz9 hk
        exact ex1 v5 v6 _ _ _ hk hP hS (lv_sub hl [1, 2, 3] rfl)
      · have hk := it_f cz9 hk
        refine lv_iload_n hx hb dX5_areSumsOfVotes_11 rfl (lv_at hl 2 rfl) ?_
        refine lv_aload_n hx hb dX5_areSumsOfVotes_12 rfl (lv_at hl 3 rfl) ?_
        refine gf_RX5_25 hx hb hts hown hK hP hi0 dX5_areSumsOfVotes_13 ?_
        refine lv_iload_n hx hb dX5_areSumsOfVotes_16 rfl (lv_at hl 0 rfl) ?_
        obtain ⟨hg10, hk⟩ := gd_s hk
        refine wa_iaload_15 hx hb hK hP hi0 hg10 dX5_areSumsOfVotes_17 ?_
        refine lv_iadd hx hb dX5_areSumsOfVotes_18 ?_
        obtain ⟨v11, ev11, hk⟩ := lq_s hk
        refine W.eq (g2 := F0 m 19 ls [.int v11]) (by rw [ev11]) ?_
        refine lv_istore_n (lv' := [(1, .int v11), (3, .int v4), (2, .int v5), (0, .ref (Z.2.2 12 i0))]) hx hb dX5_areSumsOfVotes_19 rfl hl (by decide) rfl (fun ls hl => ?_)
        refine lv_iload_n hx hb dX5_areSumsOfVotes_20 rfl (lv_at hl 2 rfl) ?_
        refine lv_aload_n hx hb dX5_areSumsOfVotes_21 rfl (lv_at hl 3 rfl) ?_
        refine gf_RX5_22 hx hb hts hown hK hP hi0 dX5_areSumsOfVotes_22 ?_
        refine lv_iload_n hx hb dX5_areSumsOfVotes_25 rfl (lv_at hl 1 rfl) ?_
        obtain ⟨hg12, hk⟩ := gd_s hk
        refine wa_iaload_14 hx hb hK hP hi0 hg12 dX5_areSumsOfVotes_26 ?_
        refine lv_aload_n hx hb dX5_areSumsOfVotes_27 rfl (lv_at hl 3 rfl) ?_
        refine gf_RX5_25 hx hb hts hown hK hP hi0 dX5_areSumsOfVotes_28 ?_
        refine lv_iload_n hx hb dX5_areSumsOfVotes_31 rfl (lv_at hl 1 rfl) ?_
        obtain ⟨hg13, hk⟩ := gd_s hk
        refine wa_iaload_15 hx hb hK hP hi0 hg13 dX5_areSumsOfVotes_32 ?_
        refine lv_imul hx hb dX5_areSumsOfVotes_33 ?_
        refine lv_iadd hx hb dX5_areSumsOfVotes_34 ?_
        obtain ⟨v14, ev14, hk⟩ := lq_s hk
        refine W.eq (g2 := F0 m 35 ls [.int v14]) (by rw [ev14]) ?_
        refine lv_istore_n (lv' := [(2, .int v14), (1, .int v11), (3, .int v4), (0, .ref (Z.2.2 12 i0))]) hx hb dX5_areSumsOfVotes_35 rfl hl (by decide) rfl (fun ls hl => ?_)
        refine lv_iinc (v := (v4 + ((-1) : Int32))) (lv' := [(3, .int (v4 + ((-1) : Int32))), (2, .int v14), (1, .int v11), (0, .ref (Z.2.2 12 i0))]) hx hb dX5_areSumsOfVotes_36 hl (k := 2) rfl rfl (by decide) rfl (fun ls hl => ?_)
        refine lv_goto (tgt := 7) hx hb dX5_areSumsOfVotes_39 (by decide) ?_
        exact ih (v4 + ((-1) : Int32)) v14 v11 _ _ _ hk hP hS (lv_sub hl [0, 1, 2, 3] rfl)
  exact lp1 1000 (9 : Int32) (0 : Int32) (0 : Int32) _ _ _ hk hP hS (lv_sub hl [0, 1, 2, 3] rfl)
set_option maxHeartbeats 4000000 in
set_option maxRecDepth 100000 in
theorem k_X5_styleAbove (l : Launch) (hfl : l.stackTraces = false) (Z : ZT) (hZ : wD Z) (X M O : SS) (i0 : Nat) (hi0 : i0 < 40) (r : Int32) (hf : f_X5_styleAbove X i0 = some (r)) (sz : Nat) : vx_Met l yX5_styleAbove ws_X5_styleAbove rm_X5_styleAbove (va_Pc [.ref (Z.2.2 12 i0)] (cP Z (X, M, O) sz)) (cQi Z (X, M, O) (.inl r) sz) (cX Z (X, M, O) (.inl r : Int32 ⊕ String) sz) 0 0 (wA Z sz) := by
  refine vx_ofW (cc := cX5_styleAbove) (maxL := 1) (ret := (some .int)) (by decide) rfl ?_
  intro p e s m args below meth c s₁ B hml htab hv
  obtain ⟨hargs, hsz, hE, hP, hK⟩ := hv
  have hx := B.exec
  have hb := B.bytes
  have hr := B.returns
  have hts0 := atoms_spec (ws := ws_X5_styleAbove) B.pre
  have hts : ∀ w ∈ lw_all, w.before args s = true := fun w h => hts0 w (List.mem_cons_of_mem _ h)
  have hown : s.vm.findClass RX5 = some m.cls := findClass_of_methodNamed B.named
  have hlocks := B.notSynchronized
  have hout9 : ∀ (pc9 : Nat), ∀ x ∈ c.exceptionTable.toList, covers x pc9 = false := fun _ x hx9 => (htab x hx9).elim
  subst hsz
  have hS : va_S (wA Z s.heap.size) s.heap s.heap [] := va_S.rf
  have hl := lv_entry ([.ref (Z.2.2 12 i0)]) (n := 1) (Nat.le_of_ble_eq_true rfl)
  have hen : entryFrame m args 1 = entryFrame m ([.ref (Z.2.2 12 i0)] : List Value).toArray 1 := by rw [hargs]
  rw [hen, lg_entry_eq]
  generalize (lg_sl ([.ref (Z.2.2 12 i0)]) ++ List.replicate (1 - (lg_sl ([.ref (Z.2.2 12 i0)])).length) Slot.unset).toArray = ls at hl ⊢
  have hl : lv_has ls 1 [(0, .ref (Z.2.2 12 i0))] := hl
  have hk := hf
  unfold f_X5_styleAbove at hk
  refine lv_aload_n hx hb dX5_styleAbove_0 rfl (lv_at hl 0 rfl) ?_
  refine gf_RX5_32 hx hb hts hown hK hP hi0 dX5_styleAbove_1 ?_
  refine lv_if_ne (tgt := 11) hx hb dX5_styleAbove_4 (by decide) (fun cz1 => ?_) (fun cz1 => ?_)
  · have hk := it_f cz1 hk
    refine lv_aload_n hx hb dX5_styleAbove_11 rfl (lv_at hl 0 rfl) ?_
    refine gf_RX5_35 hx hb hts hown hK hP hi0 dX5_styleAbove_12 ?_
    cases (show some _ = some _ from hk)
    exact we_i hx hb hr hlocks hP rfl hS dX5_styleAbove_15 (by decide) (by decide)
  · have hk := it_t cz1 hk
    refine lv_iconst (v := (1 : Int32)) hx hb dX5_styleAbove_7 (by decide) ?_
    refine lv_goto (tgt := 15) hx hb dX5_styleAbove_8 (by decide) ?_
    cases (show some _ = some _ from hk)
    exact we_i hx hb hr hlocks hP rfl hS dX5_styleAbove_15 (by decide) (by decide)
set_option maxHeartbeats 4000000 in
set_option maxRecDepth 100000 in
theorem k_X5_styleUnder (l : Launch) (hfl : l.stackTraces = false) (Z : ZT) (hZ : wD Z) (X M O : SS) (i0 : Nat) (hi0 : i0 < 40) (r : Int32) (hf : f_X5_styleUnder X i0 = some (r)) (sz : Nat) : vx_Met l yX5_styleUnder ws_X5_styleUnder rm_X5_styleUnder (va_Pc [.ref (Z.2.2 12 i0)] (cP Z (X, M, O) sz)) (cQi Z (X, M, O) (.inl r) sz) (cX Z (X, M, O) (.inl r : Int32 ⊕ String) sz) 0 0 (wA Z sz) := by
  refine vx_ofW (cc := cX5_styleUnder) (maxL := 1) (ret := (some .int)) (by decide) rfl ?_
  intro p e s m args below meth c s₁ B hml htab hv
  obtain ⟨hargs, hsz, hE, hP, hK⟩ := hv
  have hx := B.exec
  have hb := B.bytes
  have hr := B.returns
  have hts0 := atoms_spec (ws := ws_X5_styleUnder) B.pre
  have hts : ∀ w ∈ lw_all, w.before args s = true := fun w h => hts0 w (List.mem_cons_of_mem _ h)
  have hown : s.vm.findClass RX5 = some m.cls := findClass_of_methodNamed B.named
  have hlocks := B.notSynchronized
  have hout9 : ∀ (pc9 : Nat), ∀ x ∈ c.exceptionTable.toList, covers x pc9 = false := fun _ x hx9 => (htab x hx9).elim
  subst hsz
  have hS : va_S (wA Z s.heap.size) s.heap s.heap [] := va_S.rf
  have hl := lv_entry ([.ref (Z.2.2 12 i0)]) (n := 1) (Nat.le_of_ble_eq_true rfl)
  have hen : entryFrame m args 1 = entryFrame m ([.ref (Z.2.2 12 i0)] : List Value).toArray 1 := by rw [hargs]
  rw [hen, lg_entry_eq]
  generalize (lg_sl ([.ref (Z.2.2 12 i0)]) ++ List.replicate (1 - (lg_sl ([.ref (Z.2.2 12 i0)])).length) Slot.unset).toArray = ls at hl ⊢
  have hl : lv_has ls 1 [(0, .ref (Z.2.2 12 i0))] := hl
  have hk := hf
  unfold f_X5_styleUnder at hk
  refine lv_aload_n hx hb dX5_styleUnder_0 rfl (lv_at hl 0 rfl) ?_
  refine gf_RX5_32 hx hb hts hown hK hP hi0 dX5_styleUnder_1 ?_
  refine lv_if_ne (tgt := 11) hx hb dX5_styleUnder_4 (by decide) (fun cz1 => ?_) (fun cz1 => ?_)
  · have hk := it_f cz1 hk
    refine lv_aload_n hx hb dX5_styleUnder_11 rfl (lv_at hl 0 rfl) ?_
    refine gf_RX5_32 hx hb hts hown hK hP hi0 dX5_styleUnder_12 ?_
    cases (show some _ = some _ from hk)
    exact we_i hx hb hr hlocks hP rfl hS dX5_styleUnder_15 (by decide) (by decide)
  · have hk := it_t cz1 hk
    refine lv_iconst (v := (1 : Int32)) hx hb dX5_styleUnder_7 (by decide) ?_
    refine lv_goto (tgt := 15) hx hb dX5_styleUnder_8 (by decide) ?_
    cases (show some _ = some _ from hk)
    exact we_i hx hb hr hlocks hP rfl hS dX5_styleUnder_15 (by decide) (by decide)
set_option maxHeartbeats 4000000 in
set_option maxRecDepth 100000 in
theorem k_X5_hasGreaterStyleThan (l : Launch) (hfl : l.stackTraces = false) (Z : ZT) (hZ : wD Z) (X M O : SS) (i0 : Nat) (i1 : Nat) (hi0 : i0 < 40) (hi1 : i1 < 40) (r : Int32) (hf : f_X5_hasGreaterStyleThan X i0 i1 = some (r)) (sz : Nat) : vx_Met l yX5_hasGreaterStyleThan ws_X5_hasGreaterStyleThan rm_X5_hasGreaterStyleThan (va_Pc [.ref (Z.2.2 12 i0), .ref (Z.2.2 12 i1)] (cP Z (X, M, O) sz)) (cQi Z (X, M, O) (.inl r) sz) (cX Z (X, M, O) (.inl r : Int32 ⊕ String) sz) 0 0 (wA Z sz) := by
  refine vx_ofW (cc := cX5_hasGreaterStyleThan) (maxL := 2) (ret := (some .boolean)) (by decide) rfl ?_
  intro p e s m args below meth c s₁ B hml htab hv
  obtain ⟨hargs, hsz, hE, hP, hK⟩ := hv
  have hx := B.exec
  have hb := B.bytes
  have hr := B.returns
  have hts0 := atoms_spec (ws := ws_X5_hasGreaterStyleThan) B.pre
  have hts : ∀ w ∈ lw_all, w.before args s = true := fun w h => hts0 w (List.mem_cons_of_mem _ h)
  have hown : s.vm.findClass RX5 = some m.cls := findClass_of_methodNamed B.named
  have hlocks := B.notSynchronized
  have hout9 : ∀ (pc9 : Nat), ∀ x ∈ c.exceptionTable.toList, covers x pc9 = false := fun _ x hx9 => (htab x hx9).elim
  subst hsz
  have hS : va_S (wA Z s.heap.size) s.heap s.heap [] := va_S.rf
  have hl := lv_entry ([.ref (Z.2.2 12 i0), .ref (Z.2.2 12 i1)]) (n := 2) (Nat.le_of_ble_eq_true rfl)
  have hen : entryFrame m args 2 = entryFrame m ([.ref (Z.2.2 12 i0), .ref (Z.2.2 12 i1)] : List Value).toArray 2 := by rw [hargs]
  rw [hen, lg_entry_eq]
  generalize (lg_sl ([.ref (Z.2.2 12 i0), .ref (Z.2.2 12 i1)]) ++ List.replicate (2 - (lg_sl ([.ref (Z.2.2 12 i0), .ref (Z.2.2 12 i1)])).length) Slot.unset).toArray = ls at hl ⊢
  have hl : lv_has ls 2 [(0, .ref (Z.2.2 12 i0)), (1, .ref (Z.2.2 12 i1))] := hl
  have hk := hf
  unfold f_X5_hasGreaterStyleThan at hk
  refine lv_aload_n hx hb dX5_hasGreaterStyleThan_0 rfl (lv_at hl 0 rfl) ?_
  obtain ⟨v1, hf2, hk⟩ := b0_s hk
  refine wc_iV0 (rest := []) (As := []) ⟨hx, hb, hml, hown, hts⟩ (fun sz => k_X5_styleAbove l hfl Z hZ X M O i0 hi0 v1 hf2 sz) (cw_RX5_83 (args := args) (s := s) hts (Nat.le_of_ble_eq_true rfl) (Nat.le_of_ble_eq_true rfl)) hE hP hK hS (rv_12 hK hP hi0) rfl hl.1 rfl (Nat.le_of_ble_eq_true rfl) dX5_hasGreaterStyleThan_1 ⟨Nat.le_of_ble_eq_true rfl, Nat.le_of_ble_eq_true rfl⟩ (fun H locs hP hS => ?_)
  refine lv_aload_n hx hb dX5_hasGreaterStyleThan_4 rfl (lv_at hl 1 rfl) ?_
  obtain ⟨v3, hf4, hk⟩ := b0_s hk
  refine wc_iV0 (rest := [.int v1]) (As := []) ⟨hx, hb, hml, hown, hts⟩ (fun sz => k_X5_styleUnder l hfl Z hZ X M O i1 hi1 v3 hf4 sz) (cw_RX5_87 (args := args) (s := s) hts (Nat.le_of_ble_eq_true rfl) (Nat.le_of_ble_eq_true rfl)) hE hP hK hS (rv_12 hK hP hi1) rfl hl.1 rfl (Nat.le_of_ble_eq_true rfl) dX5_hasGreaterStyleThan_5 ⟨Nat.le_of_ble_eq_true rfl, Nat.le_of_ble_eq_true rfl⟩ (fun H locs hP hS => ?_)
  refine lv_imul hx hb dX5_hasGreaterStyleThan_8 ?_
  refine lv_aload_n hx hb dX5_hasGreaterStyleThan_9 rfl (lv_at hl 1 rfl) ?_
  obtain ⟨v5, hf6, hk⟩ := b0_s hk
  refine wc_iV0 (rest := [.int (v1 * v3)]) (As := []) ⟨hx, hb, hml, hown, hts⟩ (fun sz => k_X5_styleAbove l hfl Z hZ X M O i1 hi1 v5 hf6 sz) (cw_RX5_83 (args := args) (s := s) hts (Nat.le_of_ble_eq_true rfl) (Nat.le_of_ble_eq_true rfl)) hE hP hK hS (rv_12 hK hP hi1) rfl hl.1 rfl (Nat.le_of_ble_eq_true rfl) dX5_hasGreaterStyleThan_10 ⟨Nat.le_of_ble_eq_true rfl, Nat.le_of_ble_eq_true rfl⟩ (fun H locs hP hS => ?_)
  refine lv_aload_n hx hb dX5_hasGreaterStyleThan_13 rfl (lv_at hl 0 rfl) ?_
  obtain ⟨v7, hf8, hk⟩ := b0_s hk
  refine wc_iV0 (rest := [.int v5, .int (v1 * v3)]) (As := []) ⟨hx, hb, hml, hown, hts⟩ (fun sz => k_X5_styleUnder l hfl Z hZ X M O i0 hi0 v7 hf8 sz) (cw_RX5_87 (args := args) (s := s) hts (Nat.le_of_ble_eq_true rfl) (Nat.le_of_ble_eq_true rfl)) hE hP hK hS (rv_12 hK hP hi0) rfl hl.1 rfl (Nat.le_of_ble_eq_true rfl) dX5_hasGreaterStyleThan_14 ⟨Nat.le_of_ble_eq_true rfl, Nat.le_of_ble_eq_true rfl⟩ (fun H locs hP hS => ?_)
  refine lv_imul hx hb dX5_hasGreaterStyleThan_17 ?_
  refine lv_icmp_le (tgt := 25) hx hb dX5_hasGreaterStyleThan_18 (by decide) (fun cz9 => ?_) (fun cz9 => ?_)
  · have hk := it_t cz9 hk
    refine lv_iconst (v := (0 : Int32)) hx hb dX5_hasGreaterStyleThan_25 (by decide) ?_
    cases (show some _ = some _ from hk)
    exact we_z hx hb hr hlocks (show okz (0 : Int32) by unfold okz; decide).1 hP rfl hS dX5_hasGreaterStyleThan_26 (by decide) (by decide)
  · have hk := it_f cz9 hk
    refine lv_iconst (v := (1 : Int32)) hx hb dX5_hasGreaterStyleThan_21 (by decide) ?_
    refine lv_goto (tgt := 26) hx hb dX5_hasGreaterStyleThan_22 (by decide) ?_
    cases (show some _ = some _ from hk)
    exact we_z hx hb hr hlocks (show okz (1 : Int32) by unfold okz; decide).1 hP rfl hS dX5_hasGreaterStyleThan_26 (by decide) (by decide)
set_option maxHeartbeats 4000000 in
set_option maxRecDepth 100000 in
theorem k_X6_isOutOfRange (l : Launch) (hfl : l.stackTraces = false) (Z : ZT) (hZ : wD Z) (X M O : SS) (p0 : Int32) (r : Int32) (hf : f_X6_isOutOfRange p0 = some (r)) (sz : Nat) : vx_Met l yX6_isOutOfRange ws_X6_isOutOfRange rm_X6_isOutOfRange (va_Pc [.int p0] (cP Z (X, M, O) sz)) (cQi Z (X, M, O) (.inl r) sz) (cX Z (X, M, O) (.inl r : Int32 ⊕ String) sz) 0 0 (wA Z sz) := by
  refine vx_ofW (cc := cX6_isOutOfRange) (maxL := 1) (ret := (some .boolean)) (by decide) rfl ?_
  intro p e s m args below meth c s₁ B hml htab hv
  obtain ⟨hargs, hsz, hE, hP, hK⟩ := hv
  have hx := B.exec
  have hb := B.bytes
  have hr := B.returns
  have hts0 := atoms_spec (ws := ws_X6_isOutOfRange) B.pre
  have hts : ∀ w ∈ lw_all, w.before args s = true := fun w h => hts0 w (List.mem_cons_of_mem _ h)
  have hown : s.vm.findClass RX6 = some m.cls := findClass_of_methodNamed B.named
  have hlocks := B.notSynchronized
  have hout9 : ∀ (pc9 : Nat), ∀ x ∈ c.exceptionTable.toList, covers x pc9 = false := fun _ x hx9 => (htab x hx9).elim
  subst hsz
  have hS : va_S (wA Z s.heap.size) s.heap s.heap [] := va_S.rf
  have hl := lv_entry ([.int p0]) (n := 1) (Nat.le_of_ble_eq_true rfl)
  have hen : entryFrame m args 1 = entryFrame m ([.int p0] : List Value).toArray 1 := by rw [hargs]
  rw [hen, lg_entry_eq]
  generalize (lg_sl ([.int p0]) ++ List.replicate (1 - (lg_sl ([.int p0])).length) Slot.unset).toArray = ls at hl ⊢
  have hl : lv_has ls 1 [(0, .int p0)] := hl
  have hk := hf
  unfold f_X6_isOutOfRange at hk
  refine lv_iload_n hx hb dX6_isOutOfRange_0 rfl (lv_at hl 0 rfl) ?_
  refine lv_sipush (v := ((-999) : Int32)) hx hb dX6_isOutOfRange_1 (by decide) ?_
  refine lv_icmp_lt (tgt := 14) hx hb dX6_isOutOfRange_4 (by decide) (fun cz1 => ?_) (fun cz1 => ?_)
  · have hk := it_t cz1 hk
    refine lv_iconst (v := (1 : Int32)) hx hb dX6_isOutOfRange_14 (by decide) ?_
    refine lv_goto (tgt := 19) hx hb dX6_isOutOfRange_15 (by decide) ?_
    cases (show some _ = some _ from hk)
    exact we_z hx hb hr hlocks (show okz (1 : Int32) by unfold okz; decide).1 hP rfl hS dX6_isOutOfRange_19 (by decide) (by decide)
  · have hk := it_f cz1 hk
    refine lv_iload_n hx hb dX6_isOutOfRange_7 rfl (lv_at hl 0 rfl) ?_
    refine lv_sipush (v := (999 : Int32)) hx hb dX6_isOutOfRange_8 (by decide) ?_
    refine lv_icmp_le (tgt := 18) hx hb dX6_isOutOfRange_11 (by decide) (fun cz2 => ?_) (fun cz2 => ?_)
    · have hk := it_t cz2 hk
      refine lv_iconst (v := (0 : Int32)) hx hb dX6_isOutOfRange_18 (by decide) ?_
      cases (show some _ = some _ from hk)
      exact we_z hx hb hr hlocks (show okz (0 : Int32) by unfold okz; decide).1 hP rfl hS dX6_isOutOfRange_19 (by decide) (by decide)
    · have hk := it_f cz2 hk
      refine lv_iconst (v := (1 : Int32)) hx hb dX6_isOutOfRange_14 (by decide) ?_
      refine lv_goto (tgt := 19) hx hb dX6_isOutOfRange_15 (by decide) ?_
      cases (show some _ = some _ from hk)
      exact we_z hx hb hr hlocks (show okz (1 : Int32) by unfold okz; decide).1 hP rfl hS dX6_isOutOfRange_19 (by decide) (by decide)