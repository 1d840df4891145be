set_option maxHeartbeats 4000000 in
set_option maxRecDepth 100000 in
theorem k_X1_pairBrackets (l : Launch) (hfl : l.stackTraces = false) (Z : ZT) (hZ : wD Z) (X M O : SS) (i0 : Nat) (i1 : Nat) (hi0 : i0 < 2) (hi1 : i1 < 71) (Xz : SS) (r : Unit) (hf : f_X1_pairBrackets X i0 i1 = some (Xz, r)) (sz : Nat) : vx_Met l yX1_pairBrackets ws_X1_pairBrackets rm_X1_pairBrackets (va_Pc [.ref (Z.2.2 16 i0), .ref (Z.2.2 1 i1)] (cP Z (X, M, O) sz)) (cQv Z (Xz, M, O) (.inl ()) sz) (cX Z (Xz, M, O) (.inl () : Unit ⊕ String) sz) 0 0 (wA Z sz) := by
  refine vx_ofW (cc := cX1_pairBrackets) (maxL := 4) (ret := none) (by decide) rfl ?_
  intro p e s m args below meth c s₁ B hml htab hv
  obtain ⟨hargs, hsz, hE, hP, hK⟩ := hv
  have hx := B.exec
  have hb := B.bytes
  have hr := B.returns
  have hts0 := atoms_spec (ws := ws_X1_pairBrackets) B.pre
  have hts : ∀ w ∈ lw_all, w.before args s = true := fun w h => hts0 w (List.mem_cons_of_mem _ h)
  have hown : s.vm.findClass RX1 = some m.cls := findClass_of_methodNamed B.named
  have hlocks := B.notSynchronized
  have hout9 : ∀ (pc9 : Nat), ∀ x ∈ c.exceptionTable.toList, covers x pc9 = false := fun _ x hx9 => (htab x hx9).elim
  subst hsz
  have hS : va_S (wA Z s.heap.size) s.heap s.heap [] := va_S.rf
  have hl := lv_entry ([.ref (Z.2.2 16 i0), .ref (Z.2.2 1 i1)]) (n := 4) (Nat.le_of_ble_eq_true rfl)
  have hen : entryFrame m args 4 = entryFrame m ([.ref (Z.2.2 16 i0), .ref (Z.2.2 1 i1)] : List Value).toArray 4 := by rw [hargs]
  rw [hen, lg_entry_eq]
  generalize (lg_sl ([.ref (Z.2.2 16 i0), .ref (Z.2.2 1 i1)]) ++ List.replicate (4 - (lg_sl ([.ref (Z.2.2 16 i0), .ref (Z.2.2 1 i1)])).length) Slot.unset).toArray = ls at hl ⊢
  have hl : lv_has ls 4 [(0, .ref (Z.2.2 16 i0)), (1, .ref (Z.2.2 1 i1))] := hl
  have hk := hf
  unfold f_X1_pairBrackets at hk
  refine lv_iconst (v := (0 : Int32)) hx hb dX1_pairBrackets_0 (by decide) ?_
  refine lv_istore_n (lv' := [(2, .int (0 : Int32)), (0, .ref (Z.2.2 16 i0)), (1, .ref (Z.2.2 1 i1))]) hx hb dX1_pairBrackets_1 rfl hl (by decide) rfl (fun ls hl => ?_)
  refine lv_iconst (v := (0 : Int32)) hx hb dX1_pairBrackets_2 (by decide) ?_
  refine lv_istore_n (lv' := [(3, .int (0 : Int32)), (2, .int (0 : Int32)), (0, .ref (Z.2.2 16 i0)), (1, .ref (Z.2.2 1 i1))]) hx hb dX1_pairBrackets_3 rfl hl (by decide) rfl (fun ls hl => ?_)
  obtain ⟨k1, hk1, hk⟩ := gn hk
  have ex1 : ∀ (X2 : SS) (H : Heap) (locs : List Loc) (ls : Array Slot), k1 X2 = some (Xz, r) → wP Z (X2, M, O) H → va_S (wA Z s.heap.size) s.heap H locs → lv_has ls 4 [] → W p l e (headSpec ws_X1_pairBrackets rm_X1_pairBrackets).room s m args below meth c H locs 0 0 (vx_MQ below (cQv Z (Xz, M, O) (.inl ()) s.heap.size) (cX Z (Xz, M, O) (.inl () : Unit ⊕ String) s.heap.size) args s 0 0 (wA Z s.heap.size)) (F0 m 91 ls []) := by
    intro X2 H locs ls hk hP hS hl
    subst hk1
    cases (show some _ = some _ from hk)
    exact we_v hx hb hr hlocks hP rfl hS dX1_pairBrackets_91 (by decide) (by decide)
  have lp1 : ∀ (n : Nat) (v3 : Int32) (v4 : Int32) (X5 : SS) (H : Heap) (locs : List Loc) (ls : Array Slot), f_X1_pairBrackets_L4 i1 i0 n v3 v4 X5 k1 = some (Xz, r) → wP Z (X5, M, O) H → va_S (wA Z s.heap.size) s.heap H locs → lv_has ls 4 [(3, .int v3), (2, .int v4), (0, .ref (Z.2.2 16 i0)), (1, .ref (Z.2.2 1 i1))] → W p l e (headSpec ws_X1_pairBrackets rm_X1_pairBrackets).room s m args below meth c H locs 0 0 (vx_MQ below (cQv Z (Xz, M, O) (.inl ()) s.heap.size) (cX Z (Xz, M, O) (.inl () : Unit ⊕ String) s.heap.size) args s 0 0 (wA Z s.heap.size)) (F0 m 4 ls []) := by
    intro n
    induction n with
    | zero =>
      intro v3 v4 X5 H locs ls hk
      rw [f_X1_pairBrackets_L4] at hk
      exact nomatch (show none = some _ from hk)
    | succ n ih =>
      intro v3 v4 X5 H locs ls hk hP hS hl
      rw [f_X1_pairBrackets_L4] at hk
      refine lv_iload_n hx hb dX1_pairBrackets_4 rfl (lv_at hl 0 rfl) ?_
      refine lv_aload_n hx hb dX1_pairBrackets_5 rfl (lv_at hl 3 rfl) ?_
      refine gf_RX1_44 hx hb hts hown hK hP hi1 dX1_pairBrackets_6 ?_
      refine lv_icmp_ge (tgt := 91) hx hb dX1_pairBrackets_9 (by decide) (fun cz6 => ?_) (fun cz6 => ?_)
      · have hk := it_t cz6 hk
        exact ex1 X5 _ _ _ hk hP hS (lv_sub hl [] rfl)
      · have hk := it_f cz6 hk
        refine lv_aload_n hx hb dX1_pairBrackets_12 rfl (lv_at hl 2 rfl) ?_
        refine gf_RX1_18 hx hb hts hown hK hP hi0 dX1_pairBrackets_13 ?_
        refine lv_iload_n hx hb dX1_pairBrackets_16 rfl (lv_at hl 0 rfl) ?_
        refine lv_iload_n hx hb dX1_pairBrackets_17 rfl (lv_at hl 0 rfl) ?_
        obtain ⟨hg7, hk⟩ := gd_s hk
        obtain ⟨X8, eX8, hk⟩ := lq_s hk
        refine wa_iastore_19 hx hb hZ hK hP hS hi0 hg7 dX1_pairBrackets_18 (fun H locs hP hS => ?_)
        rw [← eX8] at hP
        refine lv_aload_n hx hb dX1_pairBrackets_19 rfl (lv_at hl 3 rfl) ?_
        refine gf_RX1_49 hx hb hts hown hK hP hi1 dX1_pairBrackets_20 ?_
        refine lv_iload_n hx hb dX1_pairBrackets_23 rfl (lv_at hl 0 rfl) ?_
        obtain ⟨hg9, hk⟩ := gd_s hk
        refine wa_caload_2 hx hb hK hP hi1 hg9 dX1_pairBrackets_24 ?_
        refine lv_bipush (v := (91 : Int32)) hx hb dX1_pairBrackets_25 (by decide) ?_
        refine lv_icmp_ne (tgt := 43) hx hb dX1_pairBrackets_27 (by decide) (fun cz10 => ?_) (fun cz10 => ?_)
        · have hk := it_f cz10 hk
          refine lv_aload_n hx hb dX1_pairBrackets_43 rfl (lv_at hl 3 rfl) ?_
          refine gf_RX1_49 hx hb hts hown hK hP hi1 dX1_pairBrackets_44 ?_
          refine lv_iload_n hx hb dX1_pairBrackets_47 rfl (lv_at hl 0 rfl) ?_
          obtain ⟨hg11, hk⟩ := gd_s hk
          refine wa_caload_2 hx hb hK hP hi1 hg11 dX1_pairBrackets_48 ?_
          refine lv_bipush (v := (93 : Int32)) hx hb dX1_pairBrackets_49 (by decide) ?_
          refine lv_icmp_ne (tgt := 85) hx hb dX1_pairBrackets_51 (by decide) (fun cz12 => ?_) (fun cz12 => ?_)
          · have hk := it_f cz12 hk
            refine lv_iinc (v := (v3 + (1 : Int32))) (lv' := [(3, .int (v3 + (1 : Int32))), (2, .int v4), (0, .ref (Z.2.2 16 i0)), (1, .ref (Z.2.2 1 i1))]) hx hb dX1_pairBrackets_85 hl (k := 0) rfl rfl (by decide) rfl (fun ls hl => ?_)
            refine lv_goto (tgt := 4) hx hb dX1_pairBrackets_88 (by decide) ?_
            exact ih (v3 + (1 : Int32)) v4 X8 _ _ _ hk hP hS (lv_sub hl [0, 1, 2, 3] rfl)
          · have hk := it_t cz12 hk
            refine lv_iload_n hx hb dX1_pairBrackets_54 rfl (lv_at hl 1 rfl) ?_
            refine lv_if_le (tgt := 85) hx hb dX1_pairBrackets_55 (by decide) (fun cz13 => ?_) (fun cz13 => ?_)
            · have hk := it_t cz13 hk
              refine lv_iinc (v := (v3 + (1 : Int32))) (lv' := [(3, .int (v3 + (1 : Int32))), (2, .int v4), (0, .ref (Z.2.2 16 i0)), (1, .ref (Z.2.2 1 i1))]) hx hb dX1_pairBrackets_85 hl (k := 0) rfl rfl (by decide) rfl (fun ls hl => ?_)
              refine lv_goto (tgt := 4) hx hb dX1_pairBrackets_88 (by decide) ?_
              exact ih (v3 + (1 : Int32)) v4 X8 _ _ _ hk hP hS (lv_sub hl [0, 1, 2, 3] rfl)
            · have hk := it_f cz13 hk
              refine lv_iinc (v := (v4 + ((-1) : Int32))) (lv' := [(2, .int (v4 + ((-1) : Int32))), (3, .int v3), (0, .ref (Z.2.2 16 i0)), (1, .ref (Z.2.2 1 i1))]) hx hb dX1_pairBrackets_58 hl (k := 1) rfl rfl (by decide) rfl (fun ls hl => ?_)
              refine lv_aload_n hx hb dX1_pairBrackets_61 rfl (lv_at hl 2 rfl) ?_
              refine gf_RX1_18 hx hb hts hown hK hP hi0 dX1_pairBrackets_62 ?_
              refine lv_iload_n hx hb dX1_pairBrackets_65 rfl (lv_at hl 1 rfl) ?_
              refine lv_aload_n hx hb dX1_pairBrackets_66 rfl (lv_at hl 2 rfl) ?_
              refine gf_RX1_21 hx hb hts hown hK hP hi0 dX1_pairBrackets_67 ?_
              refine lv_iload_n hx hb dX1_pairBrackets_70 rfl (lv_at hl 0 rfl) ?_
              obtain ⟨hg14, hk⟩ := gd_s hk
              refine wa_iaload_20 hx hb hK hP hi0 hg14 dX1_pairBrackets_71 ?_
              obtain ⟨hg15, hk⟩ := gd_s hk
              obtain ⟨X16, eX16, hk⟩ := lq_s hk
              refine wa_iastore_19 hx hb hZ hK hP hS hi0 hg15 dX1_pairBrackets_72 (fun H locs hP hS => ?_)
              rw [← eX16] at hP
              refine lv_aload_n hx hb dX1_pairBrackets_73 rfl (lv_at hl 2 rfl) ?_
              refine gf_RX1_18 hx hb hts hown hK hP hi0 dX1_pairBrackets_74 ?_
              refine lv_aload_n hx hb dX1_pairBrackets_77 rfl (lv_at hl 2 rfl) ?_
              refine gf_RX1_21 hx hb hts hown hK hP hi0 dX1_pairBrackets_78 ?_
              refine lv_iload_n hx hb dX1_pairBrackets_81 rfl (lv_at hl 0 rfl) ?_
              obtain ⟨hg17, hk⟩ := gd_s hk
              refine wa_iaload_20 hx hb hK hP hi0 hg17 dX1_pairBrackets_82 ?_
              refine lv_iload_n hx hb dX1_pairBrackets_83 rfl (lv_at hl 1 rfl) ?_
              obtain ⟨hg18, hk⟩ := gd_s hk
              obtain ⟨X19, eX19, hk⟩ := lq_s hk
              refine wa_iastore_19 hx hb hZ hK hP hS hi0 hg18 dX1_pairBrackets_84 (fun H locs hP hS => ?_)
              rw [← eX19] at hP
              refine lv_iinc (v := (v3 + (1 : Int32))) (lv' := [(3, .int (v3 + (1 : Int32))), (2, .int (v4 + ((-1) : Int32))), (0, .ref (Z.2.2 16 i0)), (1, .ref (Z.2.2 1 i1))]) hx hb dX1_pairBrackets_85 hl (k := 1) rfl rfl (by decide) rfl (fun ls hl => ?_)
              refine lv_goto (tgt := 4) hx hb dX1_pairBrackets_88 (by decide) ?_
              exact ih (v3 + (1 : Int32)) (v4 + ((-1) : Int32)) X19 _ _ _ hk hP hS (lv_sub hl [0, 1, 2, 3] rfl)
        · have hk := it_t cz10 hk
          refine lv_aload_n hx hb dX1_pairBrackets_30 rfl (lv_at hl 2 rfl) ?_
          refine gf_RX1_21 hx hb hts hown hK hP hi0 dX1_pairBrackets_31 ?_
          refine lv_iload_n hx hb dX1_pairBrackets_34 rfl (lv_at hl 1 rfl) ?_
          refine lv_iload_n hx hb dX1_pairBrackets_35 rfl (lv_at hl 0 rfl) ?_
          obtain ⟨hg20, hk⟩ := gd_s hk
          obtain ⟨X21, eX21, hk⟩ := lq_s hk
          refine wa_iastore_20 hx hb hZ hK hP hS hi0 hg20 dX1_pairBrackets_36 (fun H locs hP hS => ?_)
          rw [← eX21] at hP
          refine lv_iinc (v := (v4 + (1 : Int32))) (lv' := [(2, .int (v4 + (1 : Int32))), (3, .int v3), (0, .ref (Z.2.2 16 i0)), (1, .ref (Z.2.2 1 i1))]) hx hb dX1_pairBrackets_37 hl (k := 1) rfl rfl (by decide) rfl (fun ls hl => ?_)
          refine lv_goto (tgt := 85) hx hb dX1_pairBrackets_40 (by decide) ?_
          refine lv_iinc (v := (v3 + (1 : Int32))) (lv' := [(3, .int (v3 + (1 : Int32))), (2, .int (v4 + (1 : Int32))), (0, .ref (Z.2.2 16 i0)), (1, .ref (Z.2.2 1 i1))]) hx hb dX1_pairBrackets_85 hl (k := 1) rfl rfl (by decide) rfl (fun ls hl => ?_)
          refine lv_goto (tgt := 4) hx hb dX1_pairBrackets_88 (by decide) ?_
          exact ih (v3 + (1 : Int32)) (v4 + (1 : Int32)) X21 _ _ _ hk hP hS (lv_sub hl [0, 1, 2, 3] rfl)
  exact lp1 1000 (0 : Int32) (0 : Int32) X _ _ _ hk hP hS (lv_sub hl [0, 1, 2, 3] rfl)
set_option maxHeartbeats 4000000 in
set_option maxRecDepth 100000 in
theorem k_X1_neededBy (l : Launch) (hfl : l.stackTraces = false) (Z : ZT) (hZ : wD Z) (X M O : SS) (p0 : Int32) (r : Int32) (hf : f_X1_neededBy p0 = some (r)) (sz : Nat) : vx_Met l yX1_neededBy ws_X1_neededBy rm_X1_neededBy (va_Pc [.int p0] (cP Z (X, M, O) sz)) (cQi Z (X, M, O) (.inl r) sz) (cX Z (X, M, O) (.inl r : Int32 ⊕ String) sz) 0 0 (wA Z sz) := by
  refine vx_ofW (cc := cX1_neededBy) (maxL := 1) (ret := (some .int)) (by decide) rfl ?_
  intro p e s m args below meth c s₁ B hml htab hv
  obtain ⟨hargs, hsz, hE, hP, hK⟩ := hv
  have hx := B.exec
  have hb := B.bytes
  have hr := B.returns
  have hts0 := atoms_spec (ws := ws_X1_neededBy) B.pre
  have hts : ∀ w ∈ lw_all, w.before args s = true := fun w h => hts0 w (List.mem_cons_of_mem _ h)
  have hown : s.vm.findClass RX1 = some m.cls := findClass_of_methodNamed B.named
  have hlocks := B.notSynchronized
  have hout9 : ∀ (pc9 : Nat), ∀ x ∈ c.exceptionTable.toList, covers x pc9 = false := fun _ x hx9 => (htab x hx9).elim
  subst hsz
  have hS : va_S (wA Z s.heap.size) s.heap s.heap [] := va_S.rf
  have hl := lv_entry ([.int p0]) (n := 1) (Nat.le_of_ble_eq_true rfl)
  have hen : entryFrame m args 1 = entryFrame m ([.int p0] : List Value).toArray 1 := by rw [hargs]
  rw [hen, lg_entry_eq]
  generalize (lg_sl ([.int p0]) ++ List.replicate (1 - (lg_sl ([.int p0])).length) Slot.unset).toArray = ls at hl ⊢
  have hl : lv_has ls 1 [(0, .int p0)] := hl
  have hk := hf
  unfold f_X1_neededBy at hk
  refine lv_iload_n hx hb dX1_neededBy_0 rfl (lv_at hl 0 rfl) ?_
  by_cases cz2 : p0 = (91 : Int32)
  · have hk := it_t cz2 hk
    refine lv_tableIn (off := 105) (tgt := 106) hx hb dX1_neededBy_1 (by rw [cz2]; decide) (by rw [cz2]; decide) (by rw [cz2]; rfl) (by decide) ?_
    refine lv_iconst (v := (1 : Int32)) hx hb dX1_neededBy_106 (by decide) ?_
    cases (show some _ = some _ from hk)
    exact we_i hx hb hr hlocks hP rfl hS dX1_neededBy_107 (by decide) (by decide)
  have hk := it_f cz2 hk
  by_cases cz3 : p0 = (93 : Int32)
  · have hk := it_t cz3 hk
    refine lv_tableIn (off := 105) (tgt := 106) hx hb dX1_neededBy_1 (by rw [cz3]; decide) (by rw [cz3]; decide) (by rw [cz3]; rfl) (by decide) ?_
    refine lv_iconst (v := (1 : Int32)) hx hb dX1_neededBy_106 (by decide) ?_
    cases (show some _ = some _ from hk)
    exact we_i hx hb hr hlocks hP rfl hS dX1_neededBy_107 (by decide) (by decide)
  have hk := it_f cz3 hk
  by_cases cz4 : p0 = (100 : Int32)
  · have hk := it_t cz4 hk
    refine lv_tableIn (off := 105) (tgt := 106) hx hb dX1_neededBy_1 (by rw [cz4]; decide) (by rw [cz4]; decide) (by rw [cz4]; rfl) (by decide) ?_
    refine lv_iconst (v := (1 : Int32)) hx hb dX1_neededBy_106 (by decide) ?_
    cases (show some _ = some _ from hk)
    exact we_i hx hb hr hlocks hP rfl hS dX1_neededBy_107 (by decide) (by decide)
  have hk := it_f cz4 hk
  by_cases cz5 : p0 = (105 : Int32)
  · have hk := it_t cz5 hk
    refine lv_tableIn (off := 103) (tgt := 104) hx hb dX1_neededBy_1 (by rw [cz5]; decide) (by rw [cz5]; decide) (by rw [cz5]; rfl) (by decide) ?_
    refine lv_iconst (v := (0 : Int32)) hx hb dX1_neededBy_104 (by decide) ?_
    cases (show some _ = some _ from hk)
    exact we_i hx hb hr hlocks hP rfl hS dX1_neededBy_105 (by decide) (by decide)
  have hk := it_f cz5 hk
  by_cases cz6 : p0 = (110 : Int32)
  · have hk := it_t cz6 hk
    refine lv_tableIn (off := 103) (tgt := 104) hx hb dX1_neededBy_1 (by rw [cz6]; decide) (by rw [cz6]; decide) (by rw [cz6]; rfl) (by decide) ?_
    refine lv_iconst (v := (0 : Int32)) hx hb dX1_neededBy_104 (by decide) ?_
    cases (show some _ = some _ from hk)
    exact we_i hx hb hr hlocks hP rfl hS dX1_neededBy_105 (by decide) (by decide)
  have hk := it_f cz6 hk
  by_cases cz7 : p0 = (111 : Int32)
  · have hk := it_t cz7 hk
    refine lv_tableIn (off := 105) (tgt := 106) hx hb dX1_neededBy_1 (by rw [cz7]; decide) (by rw [cz7]; decide) (by rw [cz7]; rfl) (by decide) ?_
    refine lv_iconst (v := (1 : Int32)) hx hb dX1_neededBy_106 (by decide) ?_
    cases (show some _ = some _ from hk)
    exact we_i hx hb hr hlocks hP rfl hS dX1_neededBy_107 (by decide) (by decide)
  have hk := it_f cz7 hk
  by_cases cz8 : p0 = (112 : Int32)
  · have hk := it_t cz8 hk
    refine lv_tableIn (off := 105) (tgt := 106) hx hb dX1_neededBy_1 (by rw [cz8]; decide) (by rw [cz8]; decide) (by rw [cz8]; rfl) (by decide) ?_
    refine lv_iconst (v := (1 : Int32)) hx hb dX1_neededBy_106 (by decide) ?_
    cases (show some _ = some _ from hk)
    exact we_i hx hb hr hlocks hP rfl hS dX1_neededBy_107 (by decide) (by decide)
  have hk := it_f cz8 hk
  refine sw_out (lo := 91) (hi := 112) (d := 107) (tgt := 108) (x := p0) hx hb dX1_neededBy_1 (by decide) (fun j h1 h2 h3 => ?_) ?_
  · rcases (show j = 91 ∨ j = 92 ∨ j = 93 ∨ j = 94 ∨ j = 95 ∨ j = 96 ∨ j = 97 ∨ j = 98 ∨ j = 99 ∨ j = 100 ∨ j = 101 ∨ j = 102 ∨ j = 103 ∨ j = 104 ∨ j = 105 ∨ j = 106 ∨ j = 107 ∨ j = 108 ∨ j = 109 ∨ j = 110 ∨ j = 111 ∨ j = 112 by omega) with rfl | rfl | rfl | rfl | rfl | rfl | rfl | rfl | rfl | rfl | rfl | rfl | rfl | rfl | rfl | rfl | rfl | rfl | rfl | rfl | rfl | rfl
    · exact absurd h3 cz2
    · rfl
    · exact absurd h3 cz3
    · rfl
    · rfl
    · rfl
    · rfl
    · rfl
    · rfl
    · exact absurd h3 cz4
    · rfl
    · rfl
    · rfl
    · rfl
    · exact absurd h3 cz5
    · rfl
    · rfl
    · rfl
    · rfl
    · exact absurd h3 cz6
    · exact absurd h3 cz7
    · exact absurd h3 cz8
  refine lv_iconst (v := (2 : Int32)) hx hb dX1_neededBy_108 (by decide) ?_
  cases (show some _ = some _ from hk)
  exact we_i hx hb hr hlocks hP rfl hS dX1_neededBy_109 (by decide) (by decide)
set_option maxHeartbeats 4000000 in
set_option maxRecDepth 100000 in
theorem k_X1_numberUnder (l : Launch) (hfl : l.stackTraces = false) (Z : ZT) (hZ : wD Z) (X M O : SS) (i0 : Nat) (p0 : Int32) (hi0 : i0 < 2) (r : Int32) (hf : f_X1_numberUnder X i0 p0 = some (r)) (sz : Nat) : vx_Met l yX1_numberUnder ws_X1_numberUnder rm_X1_numberUnder (va_Pc [.ref (Z.2.2 16 i0), .int p0] (cP Z (X, M, O) sz)) (cQi Z (X, M, O) (.inl r) sz) (cX Z (X, M, O) (.inl r : Int32 ⊕ String) sz) 0 0 (wA Z sz) := by
  refine vx_ofW (cc := cX1_numberUnder) (maxL := 3) (ret := (some .int)) (by decide) rfl ?_
  intro p e s m args below meth c s₁ B hml htab hv
  obtain ⟨hargs, hsz, hE, hP, hK⟩ := hv
  have hx := B.exec
  have hb := B.bytes
  have hr := B.returns
  have hts0 := atoms_spec (ws := ws_X1_numberUnder) B.pre
  have hts : ∀ w ∈ lw_all, w.before args s = true := fun w h => hts0 w (List.mem_cons_of_mem _ h)
  have hown : s.vm.findClass RX1 = some m.cls := findClass_of_methodNamed B.named
  have hlocks := B.notSynchronized
  have hout9 : ∀ (pc9 : Nat), ∀ x ∈ c.exceptionTable.toList, covers x pc9 = false := fun _ x hx9 => (htab x hx9).elim
  subst hsz
  have hS : va_S (wA Z s.heap.size) s.heap s.heap [] := va_S.rf
  have hl := lv_entry ([.ref (Z.2.2 16 i0), .int p0]) (n := 3) (Nat.le_of_ble_eq_true rfl)
  have hen : entryFrame m args 3 = entryFrame m ([.ref (Z.2.2 16 i0), .int p0] : List Value).toArray 3 := by rw [hargs]
  rw [hen, lg_entry_eq]
  generalize (lg_sl ([.ref (Z.2.2 16 i0), .int p0]) ++ List.replicate (3 - (lg_sl ([.ref (Z.2.2 16 i0), .int p0])).length) Slot.unset).toArray = ls at hl ⊢
  have hl : lv_has ls 3 [(0, .ref (Z.2.2 16 i0)), (1, .int p0)] := hl
  have hk := hf
  unfold f_X1_numberUnder at hk
  refine lv_aload_n hx hb dX1_numberUnder_0 rfl (lv_at hl 0 rfl) ?_
  refine gf_RX1_24 hx hb hts hown hK hP hi0 dX1_numberUnder_1 ?_
  refine lv_iconst (v := (1 : Int32)) hx hb dX1_numberUnder_4 (by decide) ?_
  refine lv_isub hx hb dX1_numberUnder_5 ?_
  refine lv_iload_n hx hb dX1_numberUnder_6 rfl (lv_at hl 1 rfl) ?_
  refine lv_isub hx hb dX1_numberUnder_7 ?_
  obtain ⟨v1, ev1, hk⟩ := lq_s hk
  refine W.eq (g2 := F0 m 8 ls [.int v1]) (by rw [ev1]) ?_
  refine lv_istore_n (lv' := [(2, .int v1), (0, .ref (Z.2.2 16 i0)), (1, .int p0)]) hx hb dX1_numberUnder_8 rfl hl (by decide) rfl (fun ls hl => ?_)
  refine lv_iload_n hx hb dX1_numberUnder_9 rfl (lv_at hl 0 rfl) ?_
  refine lv_if_lt (tgt := 28) hx hb dX1_numberUnder_10 (by decide) (fun cz2 => ?_) (fun cz2 => ?_)
  · have hk := it_t cz2 hk
    refine lv_iconst (v := (0 : Int32)) hx hb dX1_numberUnder_28 (by decide) ?_
    cases (show some _ = some _ from hk)
    exact we_i hx hb hr hlocks hP rfl hS dX1_numberUnder_29 (by decide) (by decide)
  · have hk := it_f cz2 hk
    refine lv_iload_n hx hb dX1_numberUnder_13 rfl (lv_at hl 0 rfl) ?_
    refine lv_bipush (v := (12 : Int32)) hx hb dX1_numberUnder_14 (by decide) ?_
    refine lv_icmp_ge (tgt := 28) hx hb dX1_numberUnder_16 (by decide) (fun cz3 => ?_) (fun cz3 => ?_)
    · have hk := it_t cz3 hk
      refine lv_iconst (v := (0 : Int32)) hx hb dX1_numberUnder_28 (by decide) ?_
      cases (show some _ = some _ from hk)
      exact we_i hx hb hr hlocks hP rfl hS dX1_numberUnder_29 (by decide) (by decide)
    · have hk := it_f cz3 hk
      refine lv_aload_n hx hb dX1_numberUnder_19 rfl (lv_at hl 1 rfl) ?_
      refine gf_RX1_9 hx hb hts hown hK hP hi0 dX1_numberUnder_20 ?_
      refine lv_iload_n hx hb dX1_numberUnder_23 rfl (lv_at hl 0 rfl) ?_
      obtain ⟨hg4, hk⟩ := gd_s hk
      refine wa_iaload_17 hx hb hK hP hi0 hg4 dX1_numberUnder_24 ?_
      refine lv_goto (tgt := 29) hx hb dX1_numberUnder_25 (by decide) ?_
      cases (show some _ = some _ from hk)
      exact we_i hx hb hr hlocks hP rfl hS dX1_numberUnder_29 (by decide) (by decide)
set_option maxHeartbeats 4000000 in
set_option maxRecDepth 100000 in
theorem k_X1_errorOf (l : Launch) (hfl : l.stackTraces = false) (Z : ZT) (hZ : wD Z) (X M O : SS) (i0 : Nat) (p0 : Int32) (i2 : Nat) (hi0 : i0 < 2) (hi2 : i2 < 41) (r : Int32) (hf : f_X1_errorOf X i0 p0 i2 = some (r)) (sz : Nat) : vx_Met l yX1_errorOf ws_X1_errorOf rm_X1_errorOf (va_Pc [.ref (Z.2.2 16 i0), .int p0, .ref (Z.2.2 4 i2)] (cP Z (X, M, O) sz)) (cQi Z (X, M, O) (.inl r) sz) (cX Z (X, M, O) (.inl r : Int32 ⊕ String) sz) 0 0 (wA Z sz) := by
  refine vx_ofW (cc := cX1_errorOf) (maxL := 4) (ret := (some .char)) (by decide) rfl ?_
  intro p e s m args below meth c s₁ B hml htab hv
  obtain ⟨hargs, hsz, hE, hP, hK⟩ := hv
  have hx := B.exec
  have hb := B.bytes
  have hr := B.returns
  have hts0 := atoms_spec (ws := ws_X1_errorOf) B.pre
  have hts : ∀ w ∈ lw_all, w.before args s = true := fun w h => hts0 w (List.mem_cons_of_mem _ h)
  have hown : s.vm.findClass RX1 = some m.cls := findClass_of_methodNamed B.named
  have hlocks := B.notSynchronized
  have hout9 : ∀ (pc9 : Nat), ∀ x ∈ c.exceptionTable.toList, covers x pc9 = false := fun _ x hx9 => (htab x hx9).elim
  subst hsz
  have hS : va_S (wA Z s.heap.size) s.heap s.heap [] := va_S.rf
  have hl := lv_entry ([.ref (Z.2.2 16 i0), .int p0, .ref (Z.2.2 4 i2)]) (n := 4) (Nat.le_of_ble_eq_true rfl)
  have hen : entryFrame m args 4 = entryFrame m ([.ref (Z.2.2 16 i0), .int p0, .ref (Z.2.2 4 i2)] : List Value).toArray 4 := by rw [hargs]
  rw [hen, lg_entry_eq]
  generalize (lg_sl ([.ref (Z.2.2 16 i0), .int p0, .ref (Z.2.2 4 i2)]) ++ List.replicate (4 - (lg_sl ([.ref (Z.2.2 16 i0), .int p0, .ref (Z.2.2 4 i2)])).length) Slot.unset).toArray = ls at hl ⊢
  have hl : lv_has ls 4 [(0, .ref (Z.2.2 16 i0)), (1, .int p0), (2, .ref (Z.2.2 4 i2))] := hl
  have hk := hf
  unfold f_X1_errorOf at hk
  refine lv_aload_n hx hb dX1_errorOf_0 rfl (lv_at hl 0 rfl) ?_
  refine gf_RX1_31 hx hb hts hown hK hP hi0 dX1_errorOf_1 ?_
  refine lv_sipush (v := (300 : Int32)) hx hb dX1_errorOf_4 (by decide) ?_
  refine lv_icmp_lt (tgt := 13) hx hb dX1_errorOf_7 (by decide) (fun cz1 => ?_) (fun cz1 => ?_)
  · have hk := it_t cz1 hk
    refine lv_aload_n hx hb dX1_errorOf_13 rfl (lv_at hl 0 rfl) ?_
    refine gf_RX1_24 hx hb hts hown hK hP hi0 dX1_errorOf_14 ?_
    refine lv_iload_n hx hb dX1_errorOf_17 rfl (lv_at hl 1 rfl) ?_
    obtain ⟨v2, hf3, hk⟩ := b0_s hk
    refine wc_iS0 (rest := [.int (X.1 16 i0 4)]) (As := [.int p0]) ⟨hx, hb, hml, hown, hts⟩ (fun sz => k_X1_neededBy l hfl Z hZ X M O p0 v2 hf3 sz) (cw_RX1_68 (args := args) (s := s) hts (Nat.le_of_ble_eq_true rfl) (Nat.le_of_ble_eq_true rfl)) hE hP hK hS  rfl hl.1 rfl (Nat.le_of_ble_eq_true rfl) dX1_errorOf_18 ⟨Nat.le_of_ble_eq_true rfl, Nat.le_of_ble_eq_true rfl⟩ (fun H locs hP hS => ?_)
    refine lv_icmp_ge (tgt := 27) hx hb dX1_errorOf_21 (by decide) (fun cz4 => ?_) (fun cz4 => ?_)
    · have hk := it_t cz4 hk
      refine lv_iload_n hx hb dX1_errorOf_27 rfl (lv_at hl 1 rfl) ?_
      refine lv_bipush (v := (105 : Int32)) hx hb dX1_errorOf_28 (by decide) ?_
      have jn5 : ∀ (H : Heap) (locs : List Loc) (ls : Array Slot), f_X1_errorOf_J47 p0 X i0  = some (r) → wP Z (X, M, O) H → va_S (wA Z s.heap.size) s.heap H locs → lv_has ls 4 [(0, .ref (Z.2.2 16 i0)), (1, .int p0)] → W p l e (headSpec ws_X1_errorOf rm_X1_errorOf).room s m args below meth c H locs 0 0 (vx_MQ below (cQi Z (X, M, O) (.inl r) s.heap.size) (cX Z (X, M, O) (.inl r : Int32 ⊕ String) s.heap.size) args s 0 0 (wA Z s.heap.size)) (F0 m 47 ls []) := by
        intro  H locs ls hk hP hS hl
        unfold f_X1_errorOf_J47 at hk
        refine lv_iload_n hx hb dX1_errorOf_47 rfl (lv_at hl 1 rfl) ?_
        refine lv_bipush (v := (37 : Int32)) hx hb dX1_errorOf_48 (by decide) ?_
        have jn6 : ∀ (H : Heap) (locs : List Loc) (ls : Array Slot), f_X1_errorOf_J64 p0 X i0  = some (r) → wP Z (X, M, O) H → va_S (wA Z s.heap.size) s.heap H locs → lv_has ls 4 [(0, .ref (Z.2.2 16 i0)), (1, .int p0)] → W p l e (headSpec ws_X1_errorOf rm_X1_errorOf).room s m args below meth c H locs 0 0 (vx_MQ below (cQi Z (X, M, O) (.inl r) s.heap.size) (cX Z (X, M, O) (.inl r : Int32 ⊕ String) s.heap.size) args s 0 0 (wA Z s.heap.size)) (F0 m 64 ls []) := by
          intro  H locs ls hk hP hS hl
          unfold f_X1_errorOf_J64 at hk
          refine lv_iload_n hx hb dX1_errorOf_64 rfl (lv_at hl 1 rfl) ?_
          refine lv_bipush (v := (110 : Int32)) hx hb dX1_errorOf_65 (by decide) ?_
          have jn8 : ∀ (v7 : Int32) (H : Heap) (locs : List Loc) (ls : Array Slot), f_X1_errorOf_J87 p0 X i0 v7 = some (r) → wP Z (X, M, O) H → va_S (wA Z s.heap.size) s.heap H locs → lv_has ls 4 [(0, .ref (Z.2.2 16 i0)), (1, .int p0)] → W p l e (headSpec ws_X1_errorOf rm_X1_errorOf).room s m args below meth c H locs 0 0 (vx_MQ below (cQi Z (X, M, O) (.inl r) s.heap.size) (cX Z (X, M, O) (.inl r : Int32 ⊕ String) s.heap.size) args s 0 0 (wA Z s.heap.size)) (F0 m 87 ls [.int v7]) := by
            intro v7 H locs ls hk hP hS hl
            unfold f_X1_errorOf_J87 at hk
            refine lv_istore_n (lv' := [(3, .int v7), (0, .ref (Z.2.2 16 i0)), (1, .int p0)]) hx hb dX1_errorOf_87 rfl hl (by decide) rfl (fun ls hl => ?_)
            refine lv_iload_n hx hb dX1_errorOf_88 rfl (lv_at hl 0 rfl) ?_
            have jn9 : ∀ (H : Heap) (locs : List Loc) (ls : Array Slot), f_X1_errorOf_J104 p0 X i0  = some (r) → wP Z (X, M, O) H → va_S (wA Z s.heap.size) s.heap H locs → lv_has ls 4 [(0, .ref (Z.2.2 16 i0)), (1, .int p0)] → W p l e (headSpec ws_X1_errorOf rm_X1_errorOf).room s m args below meth c H locs 0 0 (vx_MQ below (cQi Z (X, M, O) (.inl r) s.heap.size) (cX Z (X, M, O) (.inl r : Int32 ⊕ String) s.heap.size) args s 0 0 (wA Z s.heap.size)) (F0 m 104 ls []) := by
              intro  H locs ls hk hP hS hl
              unfold f_X1_errorOf_J104 at hk
              refine lv_iload_n hx hb dX1_errorOf_104 rfl (lv_at hl 1 rfl) ?_
              refine lv_bipush (v := (111 : Int32)) hx hb dX1_errorOf_105 (by decide) ?_
              refine lv_icmp_ne (tgt := 122) hx hb dX1_errorOf_107 (by decide) (fun cz10 => ?_) (fun cz10 => ?_)
              · have hk := it_f cz10 hk
                refine lv_bipush (v := (32 : Int32)) hx hb dX1_errorOf_122 (by decide) ?_
                cases (show some _ = some _ from hk)
                exact we_z hx hb hr hlocks (show okc (32 : Int32) by unfold okc; decide).1 hP rfl hS dX1_errorOf_124 (by decide) (by decide)
              · have hk := it_t cz10 hk
                refine lv_aload_n hx hb dX1_errorOf_110 rfl (lv_at hl 0 rfl) ?_
                refine gf_RX1_28 hx hb hts hown hK hP hi0 dX1_errorOf_111 ?_
                refine lv_bipush (v := (6 : Int32)) hx hb dX1_errorOf_114 (by decide) ?_
                refine lv_icmp_lt (tgt := 122) hx hb dX1_errorOf_116 (by decide) (fun cz11 => ?_) (fun cz11 => ?_)
                · have hk := it_t cz11 hk
                  refine lv_bipush (v := (32 : Int32)) hx hb dX1_errorOf_122 (by decide) ?_
                  cases (show some _ = some _ from hk)
                  exact we_z hx hb hr hlocks (show okc (32 : Int32) by unfold okc; decide).1 hP rfl hS dX1_errorOf_124 (by decide) (by decide)
                · have hk := it_f cz11 hk
                  refine lv_bipush (v := (108 : Int32)) hx hb dX1_errorOf_119 (by decide) ?_
                  cases (show some _ = some _ from hk)
                  exact we_z hx hb hr hlocks (show okc (108 : Int32) by unfold okc; decide).1 hP rfl hS dX1_errorOf_121 (by decide) (by decide)
            refine lv_if_eq (tgt := 104) hx hb dX1_errorOf_89 (by decide) (fun cz12 => ?_) (fun cz12 => ?_)
            · have hk := it_t cz12 hk
              exact jn9 _ _ _ hk hP hS (lv_sub hl [1, 2] rfl)
            · have hk := it_f cz12 hk
              refine lv_aload_n hx hb dX1_errorOf_92 rfl (lv_at hl 1 rfl) ?_
              refine gf_RX1_24 hx hb hts hown hK hP hi0 dX1_errorOf_93 ?_
              refine lv_bipush (v := (12 : Int32)) hx hb dX1_errorOf_96 (by decide) ?_
              refine lv_icmp_lt (tgt := 104) hx hb dX1_errorOf_98 (by decide) (fun cz13 => ?_) (fun cz13 => ?_)
              · have hk := it_t cz13 hk
                exact jn9 _ _ _ hk hP hS (lv_sub hl [1, 2] rfl)
              · have hk := it_f cz13 hk
                refine lv_bipush (v := (118 : Int32)) hx hb dX1_errorOf_101 (by decide) ?_
                cases (show some _ = some _ from hk)
                exact we_z hx hb hr hlocks (show okc (118 : Int32) by unfold okc; decide).1 hP rfl hS dX1_errorOf_103 (by decide) (by decide)
          have jn14 : ∀ (H : Heap) (locs : List Loc) (ls : Array Slot), f_X1_errorOf_J82 p0 X i0  = some (r) → wP Z (X, M, O) H → va_S (wA Z s.heap.size) s.heap H locs → lv_has ls 4 [(0, .ref (Z.2.2 16 i0)), (1, .int p0)] → W p l e (headSpec ws_X1_errorOf rm_X1_errorOf).room s m args below meth c H locs 0 0 (vx_MQ below (cQi Z (X, M, O) (.inl r) s.heap.size) (cX Z (X, M, O) (.inl r : Int32 ⊕ String) s.heap.size) args s 0 0 (wA Z s.heap.size)) (F0 m 82 ls []) := by
            intro  H locs ls hk hP hS hl
            unfold f_X1_errorOf_J82 at hk
            refine lv_iconst (v := (1 : Int32)) hx hb dX1_errorOf_82 (by decide) ?_
            refine lv_goto (tgt := 87) hx hb dX1_errorOf_83 (by decide) ?_
            exact jn8 (1 : Int32) _ _ _ hk hP hS (lv_sub hl [0, 1] rfl)
          refine lv_icmp_eq (tgt := 82) hx hb dX1_errorOf_67 (by decide) (fun cz15 => ?_) (fun cz15 => ?_)
          · have hk := it_t cz15 hk
            exact jn14 _ _ _ hk hP hS (lv_sub hl [0, 1] rfl)
          · have hk := it_f cz15 hk
            refine lv_iload_n hx hb dX1_errorOf_70 rfl (lv_at hl 1 rfl) ?_
            refine lv_bipush (v := (105 : Int32)) hx hb dX1_errorOf_71 (by decide) ?_
            refine lv_icmp_eq (tgt := 82) hx hb dX1_errorOf_73 (by decide) (fun cz16 => ?_) (fun cz16 => ?_)
            · have hk := it_t cz16 hk
              exact jn14 _ _ _ hk hP hS (lv_sub hl [0, 1] rfl)
            · have hk := it_f cz16 hk
              refine lv_iload_n hx hb dX1_errorOf_76 rfl (lv_at hl 1 rfl) ?_
              refine lv_bipush (v := (100 : Int32)) hx hb dX1_errorOf_77 (by decide) ?_
              refine lv_icmp_ne (tgt := 86) hx hb dX1_errorOf_79 (by decide) (fun cz17 => ?_) (fun cz17 => ?_)
              · have hk := it_f cz17 hk
                refine lv_iconst (v := (0 : Int32)) hx hb dX1_errorOf_86 (by decide) ?_
                exact jn8 (0 : Int32) _ _ _ hk hP hS (lv_sub hl [0, 1] rfl)
              · have hk := it_t cz17 hk
                exact jn14 _ _ _ hk hP hS (lv_sub hl [0, 1] rfl)
        refine lv_icmp_ne (tgt := 64) hx hb dX1_errorOf_50 (by decide) (fun cz18 => ?_) (fun cz18 => ?_)
        · have hk := it_f cz18 hk
          exact jn6 _ _ _ hk hP hS (lv_sub hl [0, 1] rfl)
        · have hk := it_t cz18 hk
          refine lv_aload_n hx hb dX1_errorOf_53 rfl (lv_at hl 0 rfl) ?_
          refine lv_iconst (v := (0 : Int32)) hx hb dX1_errorOf_54 (by decide) ?_
          obtain ⟨v19, hf20, hk⟩ := b0_s hk
          refine wc_iV0 (rest := []) (As := [.int (0 : Int32)]) ⟨hx, hb, hml, hown, hts⟩ (fun sz => k_X1_numberUnder l hfl Z hZ X M O i0 (0 : Int32) hi0 v19 hf20 sz) (cw_RX1_77 (args := args) (s := s) hts (Nat.le_of_ble_eq_true rfl) (Nat.le_of_ble_eq_true rfl)) hE hP hK hS (rv_16 hK hP hi0) rfl hl.1 rfl (Nat.le_of_ble_eq_true rfl) dX1_errorOf_55 ⟨Nat.le_of_ble_eq_true rfl, Nat.le_of_ble_eq_true rfl⟩ (fun H locs hP hS => ?_)
          refine lv_if_ne (tgt := 64) hx hb dX1_errorOf_58 (by decide) (fun cz21 => ?_) (fun cz21 => ?_)
          · have hk := it_f cz21 hk
            exact jn6 _ _ _ hk hP hS (lv_sub hl [0, 1] rfl)
          · have hk := it_t cz21 hk
            refine lv_bipush (v := (122 : Int32)) hx hb dX1_errorOf_61 (by decide) ?_
            cases (show some _ = some _ from hk)
            exact we_z hx hb hr hlocks (show okc (122 : Int32) by unfold okc; decide).1 hP rfl hS dX1_errorOf_63 (by decide) (by decide)
      refine lv_icmp_ne (tgt := 47) hx hb dX1_errorOf_30 (by decide) (fun cz22 => ?_) (fun cz22 => ?_)
      · have hk := it_f cz22 hk
        exact jn5 _ _ _ hk hP hS (lv_sub hl [0, 1] rfl)
      · have hk := it_t cz22 hk
        refine lv_aload_n hx hb dX1_errorOf_33 rfl (lv_at hl 0 rfl) ?_
        refine gf_RX1_34 hx hb hts hown hK hP hi0 dX1_errorOf_34 ?_
        refine lv_aload_n hx hb dX1_errorOf_37 rfl (lv_at hl 2 rfl) ?_
        refine gf_RX1_72 hx hb hts hown hK hP hi2 dX1_errorOf_38 ?_
        refine lv_icmp_lt (tgt := 47) hx hb dX1_errorOf_41 (by decide) (fun cz23 => ?_) (fun cz23 => ?_)
        · have hk := it_t cz23 hk
          exact jn5 _ _ _ hk hP hS (lv_sub hl [0, 1] rfl)
        · have hk := it_f cz23 hk
          refine lv_bipush (v := (101 : Int32)) hx hb dX1_errorOf_44 (by decide) ?_
          cases (show some _ = some _ from hk)
          exact we_z hx hb hr hlocks (show okc (101 : Int32) by unfold okc; decide).1 hP rfl hS dX1_errorOf_46 (by decide) (by decide)
    · have hk := it_f cz4 hk
      refine lv_bipush (v := (117 : Int32)) hx hb dX1_errorOf_24 (by decide) ?_
      cases (show some _ = some _ from hk)
      exact we_z hx hb hr hlocks (show okc (117 : Int32) by unfold okc; decide).1 hP rfl hS dX1_errorOf_26 (by decide) (by decide)
  · have hk := it_f cz1 hk
    refine lv_bipush (v := (116 : Int32)) hx hb dX1_errorOf_10 (by decide) ?_
    cases (show some _ = some _ from hk)
    exact we_z hx hb hr hlocks (show okc (116 : Int32) by unfold okc; decide).1 hP rfl hS dX1_errorOf_12 (by decide) (by decide)
set_option maxHeartbeats 4000000 in
set_option maxRecDepth 100000 in
theorem k_X1_replace (l : Launch) (hfl : l.stackTraces = false) (Z : ZT) (hZ : wD Z) (X M O : SS) (i0 : Nat) (p0 : Int32) (p1 : Int32) (hi0 : i0 < 2) (Xz : SS) (r : Unit) (hf : f_X1_replace X i0 p0 p1 = some (Xz, r)) (sz : Nat) : vx_Met l yX1_replace ws_X1_replace rm_X1_replace (va_Pc [.ref (Z.2.2 16 i0), .int p0, .int p1] (cP Z (X, M, O) sz)) (cQv Z (Xz, M, O) (.inl ()) sz) (cX Z (Xz, M, O) (.inl () : Unit ⊕ String) sz) 0 0 (wA Z sz) := by
  refine vx_ofW (cc := cX1_replace) (maxL := 3) (ret := none) (by decide) rfl ?_
  intro p e s m args below meth c s₁ B hml htab hv
  obtain ⟨hargs, hsz, hE, hP, hK⟩ := hv
  have hx := B.exec
  have hb := B.bytes
  have hr := B.returns
  have hts0 := atoms_spec (ws := ws_X1_replace) B.pre
  have hts : ∀ w ∈ lw_all, w.before args s = true := fun w h => hts0 w (List.mem_cons_of_mem _ h)
  have hown : s.vm.findClass RX1 = some m.cls := findClass_of_methodNamed B.named
  have hlocks := B.notSynchronized
  have hout9 : ∀ (pc9 : Nat), ∀ x ∈ c.exceptionTable.toList, covers x pc9 = false := fun _ x hx9 => (htab x hx9).elim
  subst hsz
  have hS : va_S (wA Z s.heap.size) s.heap s.heap [] := va_S.rf
  have hl := lv_entry ([.ref (Z.2.2 16 i0), .int p0, .int p1]) (n := 3) (Nat.le_of_ble_eq_true rfl)
  have hen : entryFrame m args 3 = entryFrame m ([.ref (Z.2.2 16 i0), .int p0, .int p1] : List Value).toArray 3 := by rw [hargs]
  rw [hen, lg_entry_eq]
  generalize (lg_sl ([.ref (Z.2.2 16 i0), .int p0, .int p1]) ++ List.replicate (3 - (lg_sl ([.ref (Z.2.2 16 i0), .int p0, .int p1])).length) Slot.unset).toArray = ls at hl ⊢
  have hl : lv_has ls 3 [(0, .ref (Z.2.2 16 i0)), (1, .int p0), (2, .int p1)] := hl
  have hk := hf
  unfold f_X1_replace at hk
  refine lv_aload_n hx hb dX1_replace_0 rfl (lv_at hl 0 rfl) ?_
  refine lv_aload_n hx hb dX1_replace_1 rfl (lv_at hl 0 rfl) ?_
  refine gf_RX1_24 hx hb hts hown hK hP hi0 dX1_replace_2 ?_
  refine lv_iload_n hx hb dX1_replace_5 rfl (lv_at hl 1 rfl) ?_
  have jn2 : ∀ (v1 : Int32) (H : Heap) (locs : List Loc) (ls : Array Slot), f_X1_replace_J19 X i0 p1 v1 = some (Xz, r) → wP Z (X, M, O) H → va_S (wA Z s.heap.size) s.heap H locs → lv_has ls 3 [(0, .ref (Z.2.2 16 i0)), (2, .int p1)] → W p l e (headSpec ws_X1_replace rm_X1_replace).room s m args below meth c H locs 0 0 (vx_MQ below (cQv Z (Xz, M, O) (.inl ()) s.heap.size) (cX Z (Xz, M, O) (.inl () : Unit ⊕ String) s.heap.size) args s 0 0 (wA Z s.heap.size)) (F0 m 19 ls [.int v1, .ref (Z.2.2 16 i0)]) := by
    intro v1 H locs ls hk hP hS hl
    unfold f_X1_replace_J19 at hk
    obtain ⟨X3, eX3, hk⟩ := lq_s hk
    refine pf_RX1_24 hx hb hts hown hZ hK hP hS hi0 dX1_replace_19 (fun H locs hP hS => ?_)
    rw [← eX3] at hP
    refine lv_aload_n hx hb dX1_replace_22 rfl (lv_at hl 0 rfl) ?_
    refine gf_RX1_24 hx hb hts hown hK hP hi0 dX1_replace_23 ?_
    refine lv_bipush (v := (12 : Int32)) hx hb dX1_replace_26 (by decide) ?_
    refine lv_icmp_ge (tgt := 51) hx hb dX1_replace_28 (by decide) (fun cz4 => ?_) (fun cz4 => ?_)
    · have hk := it_t cz4 hk
      cases (show some _ = some _ from hk)
      exact we_v hx hb hr hlocks hP rfl hS dX1_replace_51 (by decide) (by decide)
    · have hk := it_f cz4 hk
      refine lv_aload_n hx hb dX1_replace_31 rfl (lv_at hl 0 rfl) ?_
      refine gf_RX1_9 hx hb hts hown hK hP hi0 dX1_replace_32 ?_
      refine lv_aload_n hx hb dX1_replace_35 rfl (lv_at hl 0 rfl) ?_
      refine gf_RX1_24 hx hb hts hown hK hP hi0 dX1_replace_36 ?_
      refine lv_iload_n hx hb dX1_replace_39 rfl (lv_at hl 1 rfl) ?_
      obtain ⟨hg5, hk⟩ := gd_s hk
      obtain ⟨X6, eX6, hk⟩ := lq_s hk
      refine wa_iastore_17 hx hb hZ hK hP hS hi0 hg5 dX1_replace_40 (fun H locs hP hS => ?_)
      rw [← eX6] at hP
      refine lv_aload_n hx hb dX1_replace_41 rfl (lv_at hl 0 rfl) ?_
      refine lv_dup hx hb dX1_replace_42 rfl ?_
      refine gf_RX1_24 hx hb hts hown hK hP hi0 dX1_replace_43 ?_
      refine lv_iconst (v := (1 : Int32)) hx hb dX1_replace_46 (by decide) ?_
      refine lv_iadd hx hb dX1_replace_47 ?_
      obtain ⟨X7, eX7, hk⟩ := lq_s hk
      refine pf_RX1_24 hx hb hts hown hZ hK hP hS hi0 dX1_replace_48 (fun H locs hP hS => ?_)
      rw [← eX7] at hP
      cases (show some _ = some _ from hk)
      exact we_v hx hb hr hlocks hP rfl hS dX1_replace_51 (by decide) (by decide)
  refine lv_icmp_lt (tgt := 18) hx hb dX1_replace_6 (by decide) (fun cz8 => ?_) (fun cz8 => ?_)
  · have hk := it_t cz8 hk
    refine lv_iconst (v := (0 : Int32)) hx hb dX1_replace_18 (by decide) ?_
    exact jn2 (0 : Int32) _ _ _ hk hP hS (lv_sub hl [0, 2] rfl)
  · have hk := it_f cz8 hk
    refine lv_aload_n hx hb dX1_replace_9 rfl (lv_at hl 0 rfl) ?_
    refine gf_RX1_24 hx hb hts hown hK hP hi0 dX1_replace_10 ?_
    refine lv_iload_n hx hb dX1_replace_13 rfl (lv_at hl 1 rfl) ?_
    refine lv_isub hx hb dX1_replace_14 ?_
    refine lv_goto (tgt := 19) hx hb dX1_replace_15 (by decide) ?_
    exact jn2 ((X.1 16 i0 4) - p0) _ _ _ hk hP hS (lv_sub hl [0, 2] rfl)
set_option maxHeartbeats 4000000 in
set_option maxRecDepth 100000 in
theorem k_X1_nextInput (l : Launch) (hfl : l.stackTraces = false) (Z : ZT) (hZ : wD Z) (X M O : SS) (i0 : Nat) (i1 : Nat) (hi0 : i0 < 2) (hi1 : i1 < 41) (Xz : SS) (r : Int32) (hf : f_X1_nextInput X i0 i1 = some (Xz, r)) (sz : Nat) : vx_Met l yX1_nextInput ws_X1_nextInput rm_X1_nextInput (va_Pc [.ref (Z.2.2 16 i0), .ref (Z.2.2 4 i1)] (cP Z (X, M, O) sz)) (cQi Z (Xz, M, O) (.inl r) sz) (cX Z (Xz, M, O) (.inl r : Int32 ⊕ String) sz) 0 0 (wA Z sz) := by
  refine vx_ofW (cc := cX1_nextInput) (maxL := 2) (ret := (some .int)) (by decide) rfl ?_
  intro p e s m args below meth c s₁ B hml htab hv
  obtain ⟨hargs, hsz, hE, hP, hK⟩ := hv
  have hx := B.exec
  have hb := B.bytes
  have hr := B.returns
  have hts0 := atoms_spec (ws := ws_X1_nextInput) B.pre
  have hts : ∀ w ∈ lw_all, w.before args s = true := fun w h => hts0 w (List.mem_cons_of_mem _ h)
  have hown : s.vm.findClass RX1 = some m.cls := findClass_of_methodNamed B.named
  have hlocks := B.notSynchronized
  have hout9 : ∀ (pc9 : Nat), ∀ x ∈ c.exceptionTable.toList, covers x pc9 = false := fun _ x hx9 => (htab x hx9).elim
  subst hsz
  have hS : va_S (wA Z s.heap.size) s.heap s.heap [] := va_S.rf
  have hl := lv_entry ([.ref (Z.2.2 16 i0), .ref (Z.2.2 4 i1)]) (n := 2) (Nat.le_of_ble_eq_true rfl)
  have hen : entryFrame m args 2 = entryFrame m ([.ref (Z.2.2 16 i0), .ref (Z.2.2 4 i1)] : List Value).toArray 2 := by rw [hargs]
  rw [hen, lg_entry_eq]
  generalize (lg_sl ([.ref (Z.2.2 16 i0), .ref (Z.2.2 4 i1)]) ++ List.replicate (2 - (lg_sl ([.ref (Z.2.2 16 i0), .ref (Z.2.2 4 i1)])).length) Slot.unset).toArray = ls at hl ⊢
  have hl : lv_has ls 2 [(0, .ref (Z.2.2 16 i0)), (1, .ref (Z.2.2 4 i1))] := hl
  have hk := hf
  unfold f_X1_nextInput at hk
  refine lv_aload_n hx hb dX1_nextInput_0 rfl (lv_at hl 0 rfl) ?_
  refine gf_RX1_34 hx hb hts hown hK hP hi0 dX1_nextInput_1 ?_
  refine lv_aload_n hx hb dX1_nextInput_4 rfl (lv_at hl 1 rfl) ?_
  refine gf_RX1_72 hx hb hts hown hK hP hi1 dX1_nextInput_5 ?_
  refine lv_icmp_lt (tgt := 13) hx hb dX1_nextInput_8 (by decide) (fun cz1 => ?_) (fun cz1 => ?_)
  · have hk := it_t cz1 hk
    refine lv_aload_n hx hb dX1_nextInput_13 rfl (lv_at hl 0 rfl) ?_
    refine lv_dup hx hb dX1_nextInput_14 rfl ?_
    refine gf_RX1_34 hx hb hts hown hK hP hi0 dX1_nextInput_15 ?_
    refine lv_iconst (v := (1 : Int32)) hx hb dX1_nextInput_18 (by decide) ?_
    refine lv_iadd hx hb dX1_nextInput_19 ?_
    obtain ⟨X2, eX2, hk⟩ := lq_s hk
    refine pf_RX1_34 hx hb hts hown hZ hK hP hS hi0 dX1_nextInput_20 (fun H locs hP hS => ?_)
    rw [← eX2] at hP
    refine lv_aload_n hx hb dX1_nextInput_23 rfl (lv_at hl 1 rfl) ?_
    refine gf_RX1_96 hx hb hts hown hK hP hi1 dX1_nextInput_24 ?_
    refine lv_aload_n hx hb dX1_nextInput_27 rfl (lv_at hl 0 rfl) ?_
    refine gf_RX1_34 hx hb hts hown hK hP hi0 dX1_nextInput_28 ?_
    refine lv_iconst (v := (1 : Int32)) hx hb dX1_nextInput_31 (by decide) ?_
    refine lv_isub hx hb dX1_nextInput_32 ?_
    obtain ⟨hg3, hk⟩ := gd_s hk
    refine wa_iaload_5 hx hb hK hP hi1 hg3 dX1_nextInput_33 ?_
    cases (show some _ = some _ from hk)
    exact we_i hx hb hr hlocks hP rfl hS dX1_nextInput_34 (by decide) (by decide)
  · have hk := it_f cz1 hk
    refine lv_iconst (v := (0 : Int32)) hx hb dX1_nextInput_11 (by decide) ?_
    cases (show some _ = some _ from hk)
    exact we_i hx hb hr hlocks hP rfl hS dX1_nextInput_12 (by decide) (by decide)
set_option maxHeartbeats 4000000 in
set_option maxRecDepth 100000 in
theorem k_X1_pop (l : Launch) (hfl : l.stackTraces = false) (Z : ZT) (hZ : wD Z) (X M O : SS) (i0 : Nat) (hi0 : i0 < 2) (Xz : SS) (r : Unit) (hf : f_X1_pop X i0 = some (Xz, r)) (sz : Nat) : vx_Met l yX1_pop ws_X1_pop rm_X1_pop (va_Pc [.ref (Z.2.2 16 i0)] (cP Z (X, M, O) sz)) (cQv Z (Xz, M, O) (.inl ()) sz) (cX Z (Xz, M, O) (.inl () : Unit ⊕ String) sz) 0 0 (wA Z sz) := by
  refine vx_ofW (cc := cX1_pop) (maxL := 1) (ret := none) (by decide) rfl ?_
  intro p e s m args below meth c s₁ B hml htab hv
  obtain ⟨hargs, hsz, hE, hP, hK⟩ := hv
  have hx := B.exec
  have hb := B.bytes
  have hr := B.returns
  have hts0 := atoms_spec (ws := ws_X1_pop) B.pre
  have hts : ∀ w ∈ lw_all, w.before args s = true := fun w h => hts0 w (List.mem_cons_of_mem _ h)
  have hown : s.vm.findClass RX1 = some m.cls := findClass_of_methodNamed B.named
  have hlocks := B.notSynchronized
  have hout9 : ∀ (pc9 : Nat), ∀ x ∈ c.exceptionTable.toList, covers x pc9 = false := fun _ x hx9 => (htab x hx9).elim
  subst hsz
  have hS : va_S (wA Z s.heap.size) s.heap s.heap [] := va_S.rf
  have hl := lv_entry ([.ref (Z.2.2 16 i0)]) (n := 1) (Nat.le_of_ble_eq_true rfl)
  have hen : entryFrame m args 1 = entryFrame m ([.ref (Z.2.2 16 i0)] : List Value).toArray 1 := by rw [hargs]
  rw [hen, lg_entry_eq]
  generalize (lg_sl ([.ref (Z.2.2 16 i0)]) ++ List.replicate (1 - (lg_sl ([.ref (Z.2.2 16 i0)])).length) Slot.unset).toArray = ls at hl ⊢
  have hl : lv_has ls 1 [(0, .ref (Z.2.2 16 i0))] := hl
  have hk := hf
  unfold f_X1_pop at hk
  refine lv_aload_n hx hb dX1_pop_0 rfl (lv_at hl 0 rfl) ?_
  refine lv_aload_n hx hb dX1_pop_1 rfl (lv_at hl 0 rfl) ?_
  refine gf_RX1_24 hx hb hts hown hK hP hi0 dX1_pop_2 ?_
  refine lv_if_le (tgt := 17) hx hb dX1_pop_5 (by decide) (fun cz1 => ?_) (fun cz1 => ?_)
  · have hk := it_t cz1 hk
    refine lv_iconst (v := (0 : Int32)) hx hb dX1_pop_17 (by decide) ?_
    obtain ⟨X2, eX2, hk⟩ := lq_s hk
    refine pf_RX1_24 hx hb hts hown hZ hK hP hS hi0 dX1_pop_18 (fun H locs hP hS => ?_)
    rw [← eX2] at hP
    cases (show some _ = some _ from hk)
    exact we_v hx hb hr hlocks hP rfl hS dX1_pop_21 (by decide) (by decide)
  · have hk := it_f cz1 hk
    refine lv_aload_n hx hb dX1_pop_8 rfl (lv_at hl 0 rfl) ?_
    refine gf_RX1_24 hx hb hts hown hK hP hi0 dX1_pop_9 ?_
    refine lv_iconst (v := (1 : Int32)) hx hb dX1_pop_12 (by decide) ?_
    refine lv_isub hx hb dX1_pop_13 ?_
    refine lv_goto (tgt := 18) hx hb dX1_pop_14 (by decide) ?_
    obtain ⟨X3, eX3, hk⟩ := lq_s hk
    refine pf_RX1_24 hx hb hts hown hZ hK hP hS hi0 dX1_pop_18 (fun H locs hP hS => ?_)
    rw [← eX3] at hP
    cases (show some _ = some _ from hk)
    exact we_v hx hb hr hlocks hP rfl hS dX1_pop_21 (by decide) (by decide)
set_option maxHeartbeats 4000000 in
set_option maxRecDepth 100000 in
theorem k_X1_write (l : Launch) (hfl : l.stackTraces = false) (Z : ZT) (hZ : wD Z) (X M O : SS) (i0 : Nat) (p0 : Int32) (hi0 : i0 < 2) (Xz : SS) (r : Unit) (hf : f_X1_write X i0 p0 = some (Xz, r)) (sz : Nat) : vx_Met l yX1_write ws_X1_write rm_X1_write (va_Pc [.ref (Z.2.2 16 i0), .int p0] (cP Z (X, M, O) sz)) (cQv Z (Xz, M, O) (.inl ()) sz) (cX Z (Xz, M, O) (.inl () : Unit ⊕ String) sz) 0 0 (wA Z sz) := by
  refine vx_ofW (cc := cX1_write) (maxL := 2) (ret := none) (by decide) rfl ?_
  intro p e s m args below meth c s₁ B hml htab hv
  obtain ⟨hargs, hsz, hE, hP, hK⟩ := hv
  have hx := B.exec
  have hb := B.bytes
  have hr := B.returns
  have hts0 := atoms_spec (ws := ws_X1_write) B.pre
  have hts : ∀ w ∈ lw_all, w.before args s = true := fun w h => hts0 w (List.mem_cons_of_mem _ h)
  have hown : s.vm.findClass RX1 = some m.cls := findClass_of_methodNamed B.named
  have hlocks := B.notSynchronized
  have hout9 : ∀ (pc9 : Nat), ∀ x ∈ c.exceptionTable.toList, covers x pc9 = false := fun _ x hx9 => (htab x hx9).elim
  subst hsz
  have hS : va_S (wA Z s.heap.size) s.heap s.heap [] := va_S.rf
  have hl := lv_entry ([.ref (Z.2.2 16 i0), .int p0]) (n := 2) (Nat.le_of_ble_eq_true rfl)
  have hen : entryFrame m args 2 = entryFrame m ([.ref (Z.2.2 16 i0), .int p0] : List Value).toArray 2 := by rw [hargs]
  rw [hen, lg_entry_eq]
  generalize (lg_sl ([.ref (Z.2.2 16 i0), .int p0]) ++ List.replicate (2 - (lg_sl ([.ref (Z.2.2 16 i0), .int p0])).length) Slot.unset).toArray = ls at hl ⊢
  have hl : lv_has ls 2 [(0, .ref (Z.2.2 16 i0)), (1, .int p0)] := hl
  have hk := hf
  unfold f_X1_write at hk
  refine lv_aload_n hx hb dX1_write_0 rfl (lv_at hl 0 rfl) ?_
  refine gf_RX1_28 hx hb hts hown hK hP hi0 dX1_write_1 ?_
  refine lv_bipush (v := (6 : Int32)) hx hb dX1_write_4 (by decide) ?_
  refine lv_icmp_ge (tgt := 29) hx hb dX1_write_6 (by decide) (fun cz1 => ?_) (fun cz1 => ?_)
  · have hk := it_t cz1 hk
    cases (show some _ = some _ from hk)
    exact we_v hx hb hr hlocks hP rfl hS dX1_write_29 (by decide) (by decide)
  · have hk := it_f cz1 hk
    refine lv_aload_n hx hb dX1_write_9 rfl (lv_at hl 0 rfl) ?_
    refine gf_RX1_15 hx hb hts hown hK hP hi0 dX1_write_10 ?_
    refine lv_aload_n hx hb dX1_write_13 rfl (lv_at hl 0 rfl) ?_
    refine gf_RX1_28 hx hb hts hown hK hP hi0 dX1_write_14 ?_
    refine lv_iload_n hx hb dX1_write_17 rfl (lv_at hl 1 rfl) ?_
    obtain ⟨hg2, hk⟩ := gd_s hk
    obtain ⟨X3, eX3, hk⟩ := lq_s hk
    refine wa_iastore_18 hx hb hZ hK hP hS hi0 hg2 dX1_write_18 (fun H locs hP hS => ?_)
    rw [← eX3] at hP
    refine lv_aload_n hx hb dX1_write_19 rfl (lv_at hl 0 rfl) ?_
    refine lv_dup hx hb dX1_write_20 rfl ?_
    refine gf_RX1_28 hx hb hts hown hK hP hi0 dX1_write_21 ?_
    refine lv_iconst (v := (1 : Int32)) hx hb dX1_write_24 (by decide) ?_
    refine lv_iadd hx hb dX1_write_25 ?_
    obtain ⟨X4, eX4, hk⟩ := lq_s hk
    refine pf_RX1_28 hx hb hts hown hZ hK hP hS hi0 dX1_write_26 (fun H locs hP hS => ?_)
    rw [← eX4] at hP
    cases (show some _ = some _ from hk)
    exact we_v hx hb hr hlocks hP rfl hS dX1_write_29 (by decide) (by decide)
set_option maxHeartbeats 4000000 in
set_option maxRecDepth 100000 in
theorem k_X1_perform (l : Launch) (hfl : l.stackTraces = false) (Z : ZT) (hZ : wD Z) (X M O : SS) (i0 : Nat) (p0 : Int32) (p1 : Int32) (i3 : Nat) (hi0 : i0 < 2) (hi3 : i3 < 41) (Xz : SS) (r : Unit) (hf : f_X1_perform X i0 p0 p1 i3 = some (Xz, r)) (sz : Nat) : vx_Met l yX1_perform ws_X1_perform rm_X1_perform (va_Pc [.ref (Z.2.2 16 i0), .int p0, .int p1, .ref (Z.2.2 4 i3)] (cP Z (X, M, O) sz)) (cQv Z (Xz, M, O) (.inl ()) sz) (cX Z (Xz, M, O) (.inl () : Unit ⊕ String) sz) 0 0 (wA Z sz) := by
  refine vx_ofW (cc := cX1_perform) (maxL := 7) (ret := none) (by decide) rfl ?_
  intro p e s m args below meth c s₁ B hml htab hv
  obtain ⟨hargs, hsz, hE, hP, hK⟩ := hv
  have hx := B.exec
  have hb := B.bytes
  have hr := B.returns
  have hts0 := atoms_spec (ws := ws_X1_perform) B.pre
  have hts : ∀ w ∈ lw_all, w.before args s = true := fun w h => hts0 w (List.mem_cons_of_mem _ h)
  have hown : s.vm.findClass RX1 = some m.cls := findClass_of_methodNamed B.named
  have hlocks := B.notSynchronized
  have hout9 : ∀ (pc9 : Nat), ∀ x ∈ c.exceptionTable.toList, covers x pc9 = false := fun _ x hx9 => (htab x hx9).elim
  subst hsz
  have hS : va_S (wA Z s.heap.size) s.heap s.heap [] := va_S.rf
  have hl := lv_entry ([.ref (Z.2.2 16 i0), .int p0, .int p1, .ref (Z.2.2 4 i3)]) (n := 7) (Nat.le_of_ble_eq_true rfl)
  have hen : entryFrame m args 7 = entryFrame m ([.ref (Z.2.2 16 i0), .int p0, .int p1, .ref (Z.2.2 4 i3)] : List Value).toArray 7 := by rw [hargs]
  rw [hen, lg_entry_eq]
  generalize (lg_sl ([.ref (Z.2.2 16 i0), .int p0, .int p1, .ref (Z.2.2 4 i3)]) ++ List.replicate (7 - (lg_sl ([.ref (Z.2.2 16 i0), .int p0, .int p1, .ref (Z.2.2 4 i3)])).length) Slot.unset).toArray = ls at hl ⊢
  have hl : lv_has ls 7 [(0, .ref (Z.2.2 16 i0)), (1, .int p0), (2, .int p1), (3, .ref (Z.2.2 4 i3))] := hl
  have hk := hf
  unfold f_X1_perform at hk
  refine lv_aload_n hx hb dX1_perform_0 rfl (lv_at hl 0 rfl) ?_
  refine lv_iconst (v := (0 : Int32)) hx hb dX1_perform_1 (by decide) ?_
  obtain ⟨v1, hf2, hk⟩ := b0_s hk
  refine wc_iV0 (rest := []) (As := [.int (0 : Int32)]) ⟨hx, hb, hml, hown, hts⟩ (fun sz => k_X1_numberUnder l hfl Z hZ X M O i0 (0 : Int32) hi0 v1 hf2 sz) (cw_RX1_77 (args := args) (s := s) hts (Nat.le_of_ble_eq_true rfl) (Nat.le_of_ble_eq_true rfl)) hE hP hK hS (rv_16 hK hP hi0) rfl hl.1 rfl (Nat.le_of_ble_eq_true rfl) dX1_perform_2 ⟨Nat.le_of_ble_eq_true rfl, Nat.le_of_ble_eq_true rfl⟩ (fun H locs hP hS => ?_)
  refine lv_istore (lv' := [(4, .int v1), (0, .ref (Z.2.2 16 i0)), (1, .int p0), (2, .int p1), (3, .ref (Z.2.2 4 i3))]) hx hb dX1_perform_5 hl (by decide) rfl (fun ls hl => ?_)
  refine lv_aload_n hx hb dX1_perform_7 rfl (lv_at hl 1 rfl) ?_
  refine lv_iconst (v := (1 : Int32)) hx hb dX1_perform_8 (by decide) ?_
  obtain ⟨v3, hf4, hk⟩ := b0_s hk
  refine wc_iV0 (rest := []) (As := [.int (1 : Int32)]) ⟨hx, hb, hml, hown, hts⟩ (fun sz => k_X1_numberUnder l hfl Z hZ X M O i0 (1 : Int32) hi0 v3 hf4 sz) (cw_RX1_77 (args := args) (s := s) hts (Nat.le_of_ble_eq_true rfl) (Nat.le_of_ble_eq_true rfl)) hE hP hK hS (rv_16 hK hP hi0) rfl hl.1 rfl (Nat.le_of_ble_eq_true rfl) dX1_perform_9 ⟨Nat.le_of_ble_eq_true rfl, Nat.le_of_ble_eq_true rfl⟩ (fun H locs hP hS => ?_)
  refine lv_istore (lv' := [(5, .int v3), (4, .int v1), (0, .ref (Z.2.2 16 i0)), (1, .int p0), (2, .int p1), (3, .ref (Z.2.2 4 i3))]) hx hb dX1_perform_12 hl (by decide) rfl (fun ls hl => ?_)
  refine lv_aload_n hx hb dX1_perform_14 rfl (lv_at hl 2 rfl) ?_
  refine gf_RX1_37 hx hb hts hown hK hP hi0 dX1_perform_15 ?_
  refine lv_iconst (v := (1 : Int32)) hx hb dX1_perform_18 (by decide) ?_
  refine lv_iadd hx hb dX1_perform_19 ?_
  obtain ⟨v5, ev5, hk⟩ := lq_s hk
  refine W.eq (g2 := F0 m 20 ls [.int v5]) (by rw [ev5]) ?_
  refine lv_istore (lv' := [(6, .int v5), (5, .int v3), (4, .int v1), (0, .ref (Z.2.2 16 i0)), (1, .int p0), (2, .int p1), (3, .ref (Z.2.2 4 i3))]) hx hb dX1_perform_20 hl (by decide) rfl (fun ls hl => ?_)
  refine lv_iload_n hx hb dX1_perform_22 rfl (lv_at hl 4 rfl) ?_
  by_cases cz7 : p0 = (37 : Int32)
  · have hk := it_t cz7 hk
    refine lv_lookup (off := 166) (tgt := 189) hx hb dX1_perform_23 (by decide) (by rw [cz7]; decide) (by decide) ?_
    refine lv_aload_n hx hb dX1_perform_189 rfl (lv_at hl 3 rfl) ?_
    refine lv_iconst (v := (2 : Int32)) hx hb dX1_perform_190 (by decide) ?_
    refine lv_iload hx hb dX1_perform_191 (lv_at hl 2 rfl) ?_
    refine lv_if_ne (tgt := 200) hx hb dX1_perform_193 (by decide) (fun cz8 => ?_) (fun cz8 => ?_)
    · have hk := it_f cz8 hk
      refine lv_iload hx hb dX1_perform_200 (lv_at hl 1 rfl) ?_
      refine lv_iload hx hb dX1_perform_202 (lv_at hl 2 rfl) ?_
      obtain ⟨hg9, hk⟩ := gd_s hk
      refine lv_irem hx hb dX1_perform_204 hg9 ?_
      obtain ⟨X11, v10, hf12, hk⟩ := b1_s hk
      refine wc_vV0 (rest := []) (As := [.int (2 : Int32), .int (v3 - v3 / v1 * v1)]) ⟨hx, hb, hml, hown, hts⟩ (fun sz => k_X1_replace l hfl Z hZ X M O i0 (2 : Int32) (v3 - v3 / v1 * v1) hi0 X11 v10 hf12 sz) (cw_RX1_81 (args := args) (s := s) hts (Nat.le_of_ble_eq_true rfl) (Nat.le_of_ble_eq_true rfl)) hE hP hK hS (rv_16 hK hP hi0) rfl hl.1 rfl (Nat.le_of_ble_eq_true rfl) dX1_perform_205 ⟨Nat.le_of_ble_eq_true rfl, Nat.le_of_ble_eq_true rfl⟩ (fun H locs hP hS => ?_)
      refine lv_goto (tgt := 310) hx hb dX1_perform_208 (by decide) ?_
      refine lv_aload_n hx hb dX1_perform_310 rfl (lv_at hl 3 rfl) ?_
      refine lv_iload hx hb dX1_perform_311 (lv_at hl 0 rfl) ?_
      obtain ⟨X13, eX13, hk⟩ := lq_s hk
      refine pf_RX1_37 hx hb hts hown hZ hK hP hS hi0 dX1_perform_313 (fun H locs hP hS => ?_)
      rw [← eX13] at hP
      cases (show some _ = some _ from hk)
      exact we_v hx hb hr hlocks hP rfl hS dX1_perform_316 (by decide) (by decide)
    · have hk := it_t cz8 hk
      refine lv_iconst (v := (0 : Int32)) hx hb dX1_perform_196 (by decide) ?_
      refine lv_goto (tgt := 205) hx hb dX1_perform_197 (by decide) ?_
      obtain ⟨X15, v14, hf16, hk⟩ := b1_s hk
      refine wc_vV0 (rest := []) (As := [.int (2 : Int32), .int (0 : Int32)]) ⟨hx, hb, hml, hown, hts⟩ (fun sz => k_X1_replace l hfl Z hZ X M O i0 (2 : Int32) (0 : Int32) hi0 X15 v14 hf16 sz) (cw_RX1_81 (args := args) (s := s) hts (Nat.le_of_ble_eq_true rfl) (Nat.le_of_ble_eq_true rfl)) hE hP hK hS (rv_16 hK hP hi0) rfl hl.1 rfl (Nat.le_of_ble_eq_true rfl) dX1_perform_205 ⟨Nat.le_of_ble_eq_true rfl, Nat.le_of_ble_eq_true rfl⟩ (fun H locs hP hS => ?_)
      refine lv_goto (tgt := 310) hx hb dX1_perform_208 (by decide) ?_
      refine lv_aload_n hx hb dX1_perform_310 rfl (lv_at hl 3 rfl) ?_
      refine lv_iload hx hb dX1_perform_311 (lv_at hl 0 rfl) ?_
      obtain ⟨X17, eX17, hk⟩ := lq_s hk
      refine pf_RX1_37 hx hb hts hown hZ hK hP hS hi0 dX1_perform_313 (fun H locs hP hS => ?_)
      rw [← eX17] at hP
      cases (show some _ = some _ from hk)
      exact we_v hx hb hr hlocks hP rfl hS dX1_perform_316 (by decide) (by decide)
  have hk := it_f cz7 hk
  by_cases cz18 : p0 = (42 : Int32)
  · have hk := it_t cz18 hk
    refine lv_lookup (off := 153) (tgt := 176) hx hb dX1_perform_23 (by decide) (by rw [cz18]; decide) (by decide) ?_
    refine lv_aload_n hx hb dX1_perform_176 rfl (lv_at hl 3 rfl) ?_
    refine lv_iconst (v := (2 : Int32)) hx hb dX1_perform_177 (by decide) ?_
    refine lv_iload hx hb dX1_perform_178 (lv_at hl 1 rfl) ?_
    refine lv_iload hx hb dX1_perform_180 (lv_at hl 2 rfl) ?_
    refine lv_imul hx hb dX1_perform_182 ?_
    obtain ⟨X20, v19, hf21, hk⟩ := b1_s hk
    refine wc_vV0 (rest := []) (As := [.int (2 : Int32), .int (v3 * v1)]) ⟨hx, hb, hml, hown, hts⟩ (fun sz => k_X1_replace l hfl Z hZ X M O i0 (2 : Int32) (v3 * v1) hi0 X20 v19 hf21 sz) (cw_RX1_81 (args := args) (s := s) hts (Nat.le_of_ble_eq_true rfl) (Nat.le_of_ble_eq_true rfl)) hE hP hK hS (rv_16 hK hP hi0) rfl hl.1 rfl (Nat.le_of_ble_eq_true rfl) dX1_perform_183 ⟨Nat.le_of_ble_eq_true rfl, Nat.le_of_ble_eq_true rfl⟩ (fun H locs hP hS => ?_)
    refine lv_goto (tgt := 310) hx hb dX1_perform_186 (by decide) ?_
    refine lv_aload_n hx hb dX1_perform_310 rfl (lv_at hl 3 rfl) ?_
    refine lv_iload hx hb dX1_perform_311 (lv_at hl 0 rfl) ?_
    obtain ⟨X22, eX22, hk⟩ := lq_s hk
    refine pf_RX1_37 hx hb hts hown hZ hK hP hS hi0 dX1_perform_313 (fun H locs hP hS => ?_)
    rw [← eX22] at hP
    cases (show some _ = some _ from hk)
    exact we_v hx hb hr hlocks hP rfl hS dX1_perform_316 (by decide) (by decide)
  have hk := it_f cz18 hk
  by_cases cz23 : p0 = (43 : Int32)
  · have hk := it_t cz23 hk
    refine lv_lookup (off := 127) (tgt := 150) hx hb dX1_perform_23 (by decide) (by rw [cz23]; decide) (by decide) ?_
    refine lv_aload_n hx hb dX1_perform_150 rfl (lv_at hl 3 rfl) ?_
    refine lv_iconst (v := (2 : Int32)) hx hb dX1_perform_151 (by decide) ?_
    refine lv_iload hx hb dX1_perform_152 (lv_at hl 1 rfl) ?_
    refine lv_iload hx hb dX1_perform_154 (lv_at hl 2 rfl) ?_
    refine lv_iadd hx hb dX1_perform_156 ?_
    obtain ⟨X25, v24, hf26, hk⟩ := b1_s hk
    refine wc_vV0 (rest := []) (As := [.int (2 : Int32), .int (v3 + v1)]) ⟨hx, hb, hml, hown, hts⟩ (fun sz => k_X1_replace l hfl Z hZ X M O i0 (2 : Int32) (v3 + v1) hi0 X25 v24 hf26 sz) (cw_RX1_81 (args := args) (s := s) hts (Nat.le_of_ble_eq_true rfl) (Nat.le_of_ble_eq_true rfl)) hE hP hK hS (rv_16 hK hP hi0) rfl hl.1 rfl (Nat.le_of_ble_eq_true rfl) dX1_perform_157 ⟨Nat.le_of_ble_eq_true rfl, Nat.le_of_ble_eq_true rfl⟩ (fun H locs hP hS => ?_)
    refine lv_goto (tgt := 310) hx hb dX1_perform_160 (by decide) ?_
    refine lv_aload_n hx hb dX1_perform_310 rfl (lv_at hl 3 rfl) ?_
    refine lv_iload hx hb dX1_perform_311 (lv_at hl 0 rfl) ?_
    obtain ⟨X27, eX27, hk⟩ := lq_s hk
    refine pf_RX1_37 hx hb hts hown hZ hK hP hS hi0 dX1_perform_313 (fun H locs hP hS => ?_)
    rw [← eX27] at hP
    cases (show some _ = some _ from hk)
    exact we_v hx hb hr hlocks hP rfl hS dX1_perform_316 (by decide) (by decide)
  have hk := it_f cz23 hk
  by_cases cz28 : p0 = (45 : Int32)
  · have hk := it_t cz28 hk
    refine lv_lookup (off := 140) (tgt := 163) hx hb dX1_perform_23 (by decide) (by rw [cz28]; decide) (by decide) ?_
    refine lv_aload_n hx hb dX1_perform_163 rfl (lv_at hl 3 rfl) ?_
    refine lv_iconst (v := (2 : Int32)) hx hb dX1_perform_164 (by decide) ?_
    refine lv_iload hx hb dX1_perform_165 (lv_at hl 1 rfl) ?_
    refine lv_iload hx hb dX1_perform_167 (lv_at hl 2 rfl) ?_
    refine lv_isub hx hb dX1_perform_169 ?_
    obtain ⟨X30, v29, hf31, hk⟩ := b1_s hk
    refine wc_vV0 (rest := []) (As := [.int (2 : Int32), .int (v3 - v1)]) ⟨hx, hb, hml, hown, hts⟩ (fun sz => k_X1_replace l hfl Z hZ X M O i0 (2 : Int32) (v3 - v1) hi0 X30 v29 hf31 sz) (cw_RX1_81 (args := args) (s := s) hts (Nat.le_of_ble_eq_true rfl) (Nat.le_of_ble_eq_true rfl)) hE hP hK hS (rv_16 hK hP hi0) rfl hl.1 rfl (Nat.le_of_ble_eq_true rfl) dX1_perform_170 ⟨Nat.le_of_ble_eq_true rfl, Nat.le_of_ble_eq_true rfl⟩ (fun H locs hP hS => ?_)
    refine lv_goto (tgt := 310) hx hb dX1_perform_173 (by decide) ?_
    refine lv_aload_n hx hb dX1_perform_310 rfl (lv_at hl 3 rfl) ?_
    refine lv_iload hx hb dX1_perform_311 (lv_at hl 0 rfl) ?_
    obtain ⟨X32, eX32, hk⟩ := lq_s hk
    refine pf_RX1_37 hx hb hts hown hZ hK hP hS hi0 dX1_perform_313 (fun H locs hP hS => ?_)
    rw [← eX32] at hP
    cases (show some _ = some _ from hk)
    exact we_v hx hb hr hlocks hP rfl hS dX1_perform_316 (by decide) (by decide)
  have hk := it_f cz28 hk
  by_cases cz33 : p0 = (91 : Int32)
  · have hk := it_t cz33 hk
    refine lv_lookup (off := 235) (tgt := 258) hx hb dX1_perform_23 (by decide) (by rw [cz33]; decide) (by decide) ?_
    refine lv_iload hx hb dX1_perform_258 (lv_at hl 2 rfl) ?_
    refine lv_if_ne (tgt := 277) hx hb dX1_perform_260 (by decide) (fun cz34 => ?_) (fun cz34 => ?_)
    · have hk := it_f cz34 hk
      refine lv_iload hx hb dX1_perform_277 (lv_at hl 0 rfl) ?_
      refine lv_istore (lv' := [(6, .int v5), (5, .int v3), (4, .int v1), (0, .ref (Z.2.2 16 i0)), (1, .int p0), (2, .int p1), (3, .ref (Z.2.2 4 i3))]) hx hb dX1_perform_279 hl (by decide) rfl (fun ls hl => ?_)
      refine lv_goto (tgt := 310) hx hb dX1_perform_281 (by decide) ?_
      refine lv_aload_n hx hb dX1_perform_310 rfl (lv_at hl 3 rfl) ?_
      refine lv_iload hx hb dX1_perform_311 (lv_at hl 0 rfl) ?_
      obtain ⟨X35, eX35, hk⟩ := lq_s hk
      refine pf_RX1_37 hx hb hts hown hZ hK hP hS hi0 dX1_perform_313 (fun H locs hP hS => ?_)
      rw [← eX35] at hP
      cases (show some _ = some _ from hk)
      exact we_v hx hb hr hlocks hP rfl hS dX1_perform_316 (by decide) (by decide)
    · have hk := it_t cz34 hk
      refine lv_aload_n hx hb dX1_perform_263 rfl (lv_at hl 3 rfl) ?_
      refine gf_RX1_18 hx hb hts hown hK hP hi0 dX1_perform_264 ?_
      refine lv_aload_n hx hb dX1_perform_267 rfl (lv_at hl 3 rfl) ?_
      refine gf_RX1_37 hx hb hts hown hK hP hi0 dX1_perform_268 ?_
      obtain ⟨hg36, hk⟩ := gd_s hk
      refine wa_iaload_19 hx hb hK hP hi0 hg36 dX1_perform_271 ?_
      refine lv_iconst (v := (1 : Int32)) hx hb dX1_perform_272 (by decide) ?_
      refine lv_iadd hx hb dX1_perform_273 ?_
      refine lv_goto (tgt := 279) hx hb dX1_perform_274 (by decide) ?_
      obtain ⟨v37, ev37, hk⟩ := lq_s hk
      refine W.eq (g2 := F0 m 279 ls [.int v37]) (by rw [ev37]) ?_
      refine lv_istore (lv' := [(6, .int v37), (5, .int v3), (4, .int v1), (0, .ref (Z.2.2 16 i0)), (1, .int p0), (2, .int p1), (3, .ref (Z.2.2 4 i3))]) hx hb dX1_perform_279 hl (by decide) rfl (fun ls hl => ?_)
      refine lv_goto (tgt := 310) hx hb dX1_perform_281 (by decide) ?_
      refine lv_aload_n hx hb dX1_perform_310 rfl (lv_at hl 3 rfl) ?_
      refine lv_iload hx hb dX1_perform_311 (lv_at hl 0 rfl) ?_
      obtain ⟨X38, eX38, hk⟩ := lq_s hk
      refine pf_RX1_37 hx hb hts hown hZ hK hP hS hi0 dX1_perform_313 (fun H locs hP hS => ?_)
      rw [← eX38] at hP
      cases (show some _ = some _ from hk)
      exact we_v hx hb hr hlocks hP rfl hS dX1_perform_316 (by decide) (by decide)
  have hk := it_f cz33 hk
  by_cases cz39 : p0 = (93 : Int32)
  · have hk := it_t cz39 hk
    refine lv_lookup (off := 261) (tgt := 284) hx hb dX1_perform_23 (by decide) (by rw [cz39]; decide) (by decide) ?_
    refine lv_iload hx hb dX1_perform_284 (lv_at hl 2 rfl) ?_
    refine lv_if_eq (tgt := 303) hx hb dX1_perform_286 (by decide) (fun cz40 => ?_) (fun cz40 => ?_)
    · have hk := it_t cz40 hk
      refine lv_iload hx hb dX1_perform_303 (lv_at hl 0 rfl) ?_
      refine lv_istore (lv' := [(6, .int v5), (5, .int v3), (4, .int v1), (0, .ref (Z.2.2 16 i0)), (1, .int p0), (2, .int p1), (3, .ref (Z.2.2 4 i3))]) hx hb dX1_perform_305 hl (by decide) rfl (fun ls hl => ?_)
      refine lv_goto (tgt := 310) hx hb dX1_perform_307 (by decide) ?_
      refine lv_aload_n hx hb dX1_perform_310 rfl (lv_at hl 3 rfl) ?_
      refine lv_iload hx hb dX1_perform_311 (lv_at hl 0 rfl) ?_
      obtain ⟨X41, eX41, hk⟩ := lq_s hk
      refine pf_RX1_37 hx hb hts hown hZ hK hP hS hi0 dX1_perform_313 (fun H locs hP hS => ?_)
      rw [← eX41] at hP
      cases (show some _ = some _ from hk)
      exact we_v hx hb hr hlocks hP rfl hS dX1_perform_316 (by decide) (by decide)
    · have hk := it_f cz40 hk
      refine lv_aload_n hx hb dX1_perform_289 rfl (lv_at hl 3 rfl) ?_
      refine gf_RX1_18 hx hb hts hown hK hP hi0 dX1_perform_290 ?_
      refine lv_aload_n hx hb dX1_perform_293 rfl (lv_at hl 3 rfl) ?_
      refine gf_RX1_37 hx hb hts hown hK hP hi0 dX1_perform_294 ?_
      obtain ⟨hg42, hk⟩ := gd_s hk
      refine wa_iaload_19 hx hb hK hP hi0 hg42 dX1_perform_297 ?_
      refine lv_iconst (v := (1 : Int32)) hx hb dX1_perform_298 (by decide) ?_
      refine lv_iadd hx hb dX1_perform_299 ?_
      refine lv_goto (tgt := 305) hx hb dX1_perform_300 (by decide) ?_
      obtain ⟨v43, ev43, hk⟩ := lq_s hk
      refine W.eq (g2 := F0 m 305 ls [.int v43]) (by rw [ev43]) ?_
      refine lv_istore (lv' := [(6, .int v43), (5, .int v3), (4, .int v1), (0, .ref (Z.2.2 16 i0)), (1, .int p0), (2, .int p1), (3, .ref (Z.2.2 4 i3))]) hx hb dX1_perform_305 hl (by decide) rfl (fun ls hl => ?_)
      refine lv_goto (tgt := 310) hx hb dX1_perform_307 (by decide) ?_
      refine lv_aload_n hx hb dX1_perform_310 rfl (lv_at hl 3 rfl) ?_
      refine lv_iload hx hb dX1_perform_311 (lv_at hl 0 rfl) ?_
      obtain ⟨X44, eX44, hk⟩ := lq_s hk
      refine pf_RX1_37 hx hb hts hown hZ hK hP hS hi0 dX1_perform_313 (fun H locs hP hS => ?_)
      rw [← eX44] at hP
      cases (show some _ = some _ from hk)
      exact we_v hx hb hr hlocks hP rfl hS dX1_perform_316 (by decide) (by decide)
  have hk := it_f cz39 hk
  by_cases cz45 : p0 = (100 : Int32)
  · have hk := it_t cz45 hk
    refine lv_lookup (off := 188) (tgt := 211) hx hb dX1_perform_23 (by decide) (by rw [cz45]; decide) (by decide) ?_
    refine lv_aload_n hx hb dX1_perform_211 rfl (lv_at hl 3 rfl) ?_
    refine lv_iconst (v := (0 : Int32)) hx hb dX1_perform_212 (by decide) ?_
    refine lv_iload hx hb dX1_perform_213 (lv_at hl 2 rfl) ?_
    obtain ⟨X47, v46, hf48, hk⟩ := b1_s hk
    refine wc_vV0 (rest := []) (As := [.int (0 : Int32), .int v1]) ⟨hx, hb, hml, hown, hts⟩ (fun sz => k_X1_replace l hfl Z hZ X M O i0 (0 : Int32) v1 hi0 X47 v46 hf48 sz) (cw_RX1_81 (args := args) (s := s) hts (Nat.le_of_ble_eq_true rfl) (Nat.le_of_ble_eq_true rfl)) hE hP hK hS (rv_16 hK hP hi0) rfl hl.1 rfl (Nat.le_of_ble_eq_true rfl) dX1_perform_215 ⟨Nat.le_of_ble_eq_true rfl, Nat.le_of_ble_eq_true rfl⟩ (fun H locs hP hS => ?_)
    refine lv_goto (tgt := 310) hx hb dX1_perform_218 (by decide) ?_
    refine lv_aload_n hx hb dX1_perform_310 rfl (lv_at hl 3 rfl) ?_
    refine lv_iload hx hb dX1_perform_311 (lv_at hl 0 rfl) ?_
    obtain ⟨X49, eX49, hk⟩ := lq_s hk
    refine pf_RX1_37 hx hb hts hown hZ hK hP hS hi0 dX1_perform_313 (fun H locs hP hS => ?_)
    rw [← eX49] at hP
    cases (show some _ = some _ from hk)
    exact we_v hx hb hr hlocks hP rfl hS dX1_perform_316 (by decide) (by decide)
  have hk := it_f cz45 hk
  by_cases cz50 : p0 = (105 : Int32)
  · have hk := it_t cz50 hk
    refine lv_lookup (off := 114) (tgt := 137) hx hb dX1_perform_23 (by decide) (by rw [cz50]; decide) (by decide) ?_
    refine lv_aload_n hx hb dX1_perform_137 rfl (lv_at hl 3 rfl) ?_
    refine lv_iconst (v := (0 : Int32)) hx hb dX1_perform_138 (by decide) ?_
    refine lv_aload_n hx hb dX1_perform_139 rfl (lv_at hl 3 rfl) ?_
    refine lv_aload_n hx hb dX1_perform_140 rfl (lv_at hl 6 rfl) ?_
    obtain ⟨X52, v51, hf53, hk⟩ := b1_s hk
    refine wc_iV0 (rest := [.int (0 : Int32), .ref (Z.2.2 16 i0)]) (As := [.ref (Z.2.2 4 i3)]) ⟨hx, hb, hml, hown, hts⟩ (fun sz => k_X1_nextInput l hfl Z hZ X M O i0 i3 hi0 hi3 X52 v51 hf53 sz) (cw_RX1_85 (args := args) (s := s) hts (Nat.le_of_ble_eq_true rfl) (Nat.le_of_ble_eq_true rfl)) hE hP hK hS (rv_16 hK hP hi0) rfl hl.1 rfl (Nat.le_of_ble_eq_true rfl) dX1_perform_141 ⟨Nat.le_of_ble_eq_true rfl, Nat.le_of_ble_eq_true rfl⟩ (fun H locs hP hS => ?_)
    obtain ⟨X55, v54, hf56, hk⟩ := b1_s hk
    refine wc_vV0 (rest := []) (As := [.int (0 : Int32), .int v51]) ⟨hx, hb, hml, hown, hts⟩ (fun sz => k_X1_replace l hfl Z hZ X52 M O i0 (0 : Int32) v51 hi0 X55 v54 hf56 sz) (cw_RX1_81 (args := args) (s := s) hts (Nat.le_of_ble_eq_true rfl) (Nat.le_of_ble_eq_true rfl)) hE hP hK hS (rv_16 hK hP hi0) rfl hl.1 rfl (Nat.le_of_ble_eq_true rfl) dX1_perform_144 ⟨Nat.le_of_ble_eq_true rfl, Nat.le_of_ble_eq_true rfl⟩ (fun H locs hP hS => ?_)
    refine lv_goto (tgt := 310) hx hb dX1_perform_147 (by decide) ?_
    refine lv_aload_n hx hb dX1_perform_310 rfl (lv_at hl 3 rfl) ?_
    refine lv_iload hx hb dX1_perform_311 (lv_at hl 0 rfl) ?_
    obtain ⟨X57, eX57, hk⟩ := lq_s hk
    refine pf_RX1_37 hx hb hts hown hZ hK hP hS hi0 dX1_perform_313 (fun H locs hP hS => ?_)
    rw [← eX57] at hP
    cases (show some _ = some _ from hk)
    exact we_v hx hb hr hlocks hP rfl hS dX1_perform_316 (by decide) (by decide)
  have hk := it_f cz50 hk
  by_cases cz58 : p0 = (110 : Int32)
  · have hk := it_t cz58 hk
    refine lv_lookup (off := 105) (tgt := 128) hx hb dX1_perform_23 (by decide) (by rw [cz58]; decide) (by decide) ?_
    refine lv_aload_n hx hb dX1_perform_128 rfl (lv_at hl 3 rfl) ?_
    refine lv_iconst (v := (0 : Int32)) hx hb dX1_perform_129 (by decide) ?_
    refine lv_iload_n hx hb dX1_perform_130 rfl (lv_at hl 5 rfl) ?_
    obtain ⟨X60, v59, hf61, hk⟩ := b1_s hk
    refine wc_vV0 (rest := []) (As := [.int (0 : Int32), .int p1]) ⟨hx, hb, hml, hown, hts⟩ (fun sz => k_X1_replace l hfl Z hZ X M O i0 (0 : Int32) p1 hi0 X60 v59 hf61 sz) (cw_RX1_81 (args := args) (s := s) hts (Nat.le_of_ble_eq_true rfl) (Nat.le_of_ble_eq_true rfl)) hE hP hK hS (rv_16 hK hP hi0) rfl hl.1 rfl (Nat.le_of_ble_eq_true rfl) dX1_perform_131 ⟨Nat.le_of_ble_eq_true rfl, Nat.le_of_ble_eq_true rfl⟩ (fun H locs hP hS => ?_)
    refine lv_goto (tgt := 310) hx hb dX1_perform_134 (by decide) ?_
    refine lv_aload_n hx hb dX1_perform_310 rfl (lv_at hl 3 rfl) ?_
    refine lv_iload hx hb dX1_perform_311 (lv_at hl 0 rfl) ?_
    obtain ⟨X62, eX62, hk⟩ := lq_s hk
    refine pf_RX1_37 hx hb hts hown hZ hK hP hS hi0 dX1_perform_313 (fun H locs hP hS => ?_)
    rw [← eX62] at hP
    cases (show some _ = some _ from hk)
    exact we_v hx hb hr hlocks hP rfl hS dX1_perform_316 (by decide) (by decide)
  have hk := it_f cz58 hk
  by_cases cz63 : p0 = (111 : Int32)
  · have hk := it_t cz63 hk
    refine lv_lookup (off := 222) (tgt := 245) hx hb dX1_perform_23 (by decide) (by rw [cz63]; decide) (by decide) ?_
    refine lv_aload_n hx hb dX1_perform_245 rfl (lv_at hl 3 rfl) ?_
    obtain ⟨X65, v64, hf66, hk⟩ := b1_s hk
    refine wc_vV0 (rest := []) (As := []) ⟨hx, hb, hml, hown, hts⟩ (fun sz => k_X1_pop l hfl Z hZ X M O i0 hi0 X65 v64 hf66 sz) (cw_RX1_89 (args := args) (s := s) hts (Nat.le_of_ble_eq_true rfl) (Nat.le_of_ble_eq_true rfl)) hE hP hK hS (rv_16 hK hP hi0) rfl hl.1 rfl (Nat.le_of_ble_eq_true rfl) dX1_perform_246 ⟨Nat.le_of_ble_eq_true rfl, Nat.le_of_ble_eq_true rfl⟩ (fun H locs hP hS => ?_)
    refine lv_aload_n hx hb dX1_perform_249 rfl (lv_at hl 3 rfl) ?_
    refine lv_iload hx hb dX1_perform_250 (lv_at hl 2 rfl) ?_
    obtain ⟨X68, v67, hf69, hk⟩ := b1_s hk
    refine wc_vV0 (rest := []) (As := [.int v1]) ⟨hx, hb, hml, hown, hts⟩ (fun sz => k_X1_write l hfl Z hZ X65 M O i0 v1 hi0 X68 v67 hf69 sz) (cw_RX1_92 (args := args) (s := s) hts (Nat.le_of_ble_eq_true rfl) (Nat.le_of_ble_eq_true rfl)) hE hP hK hS (rv_16 hK hP hi0) rfl hl.1 rfl (Nat.le_of_ble_eq_true rfl) dX1_perform_252 ⟨Nat.le_of_ble_eq_true rfl, Nat.le_of_ble_eq_true rfl⟩ (fun H locs hP hS => ?_)
    refine lv_goto (tgt := 310) hx hb dX1_perform_255 (by decide) ?_
    refine lv_aload_n hx hb dX1_perform_310 rfl (lv_at hl 3 rfl) ?_
    refine lv_iload hx hb dX1_perform_311 (lv_at hl 0 rfl) ?_
    obtain ⟨X70, eX70, hk⟩ := lq_s hk
    refine pf_RX1_37 hx hb hts hown hZ hK hP hS hi0 dX1_perform_313 (fun H locs hP hS => ?_)
    rw [← eX70] at hP
    cases (show some _ = some _ from hk)
    exact we_v hx hb hr hlocks hP rfl hS dX1_perform_316 (by decide) (by decide)
  have hk := it_f cz63 hk
  by_cases cz71 : p0 = (112 : Int32)
  · have hk := it_t cz71 hk
    refine lv_lookup (off := 215) (tgt := 238) hx hb dX1_perform_23 (by decide) (by rw [cz71]; decide) (by decide) ?_
    refine lv_aload_n hx hb dX1_perform_238 rfl (lv_at hl 3 rfl) ?_
    obtain ⟨X73, v72, hf74, hk⟩ := b1_s hk
    refine wc_vV0 (rest := []) (As := []) ⟨hx, hb, hml, hown, hts⟩ (fun sz => k_X1_pop l hfl Z hZ X M O i0 hi0 X73 v72 hf74 sz) (cw_RX1_89 (args := args) (s := s) hts (Nat.le_of_ble_eq_true rfl) (Nat.le_of_ble_eq_true rfl)) hE hP hK hS (rv_16 hK hP hi0) rfl hl.1 rfl (Nat.le_of_ble_eq_true rfl) dX1_perform_239 ⟨Nat.le_of_ble_eq_true rfl, Nat.le_of_ble_eq_true rfl⟩ (fun H locs hP hS => ?_)
    refine lv_goto (tgt := 310) hx hb dX1_perform_242 (by decide) ?_
    refine lv_aload_n hx hb dX1_perform_310 rfl (lv_at hl 3 rfl) ?_
    refine lv_iload hx hb dX1_perform_311 (lv_at hl 0 rfl) ?_
    obtain ⟨X75, eX75, hk⟩ := lq_s hk
    refine pf_RX1_37 hx hb hts hown hZ hK hP hS hi0 dX1_perform_313 (fun H locs hP hS => ?_)
    rw [← eX75] at hP
    cases (show some _ = some _ from hk)
    exact we_v hx hb hr hlocks hP rfl hS dX1_perform_316 (by decide) (by decide)
  have hk := it_f cz71 hk
  by_cases cz76 : p0 = (115 : Int32)
  · have hk := it_t cz76 hk
    refine lv_lookup (off := 198) (tgt := 221) hx hb dX1_perform_23 (by decide) (by rw [cz76]; decide) (by decide) ?_
    refine lv_aload_n hx hb dX1_perform_221 rfl (lv_at hl 3 rfl) ?_
    refine lv_iconst (v := (2 : Int32)) hx hb dX1_perform_222 (by decide) ?_
    refine lv_iload hx hb dX1_perform_223 (lv_at hl 2 rfl) ?_
    obtain ⟨X78, v77, hf79, hk⟩ := b1_s hk
    refine wc_vV0 (rest := []) (As := [.int (2 : Int32), .int v1]) ⟨hx, hb, hml, hown, hts⟩ (fun sz => k_X1_replace l hfl Z hZ X M O i0 (2 : Int32) v1 hi0 X78 v77 hf79 sz) (cw_RX1_81 (args := args) (s := s) hts (Nat.le_of_ble_eq_true rfl) (Nat.le_of_ble_eq_true rfl)) hE hP hK hS (rv_16 hK hP hi0) rfl hl.1 rfl (Nat.le_of_ble_eq_true rfl) dX1_perform_225 ⟨Nat.le_of_ble_eq_true rfl, Nat.le_of_ble_eq_true rfl⟩ (fun H locs hP hS => ?_)
    refine lv_aload_n hx hb dX1_perform_228 rfl (lv_at hl 3 rfl) ?_
    refine lv_iconst (v := (0 : Int32)) hx hb dX1_perform_229 (by decide) ?_
    refine lv_iload hx hb dX1_perform_230 (lv_at hl 1 rfl) ?_
    obtain ⟨X81, v80, hf82, hk⟩ := b1_s hk
    refine wc_vV0 (rest := []) (As := [.int (0 : Int32), .int v3]) ⟨hx, hb, hml, hown, hts⟩ (fun sz => k_X1_replace l hfl Z hZ X78 M O i0 (0 : Int32) v3 hi0 X81 v80 hf82 sz) (cw_RX1_81 (args := args) (s := s) hts (Nat.le_of_ble_eq_true rfl) (Nat.le_of_ble_eq_true rfl)) hE hP hK hS (rv_16 hK hP hi0) rfl hl.1 rfl (Nat.le_of_ble_eq_true rfl) dX1_perform_232 ⟨Nat.le_of_ble_eq_true rfl, Nat.le_of_ble_eq_true rfl⟩ (fun H locs hP hS => ?_)
    refine lv_goto (tgt := 310) hx hb dX1_perform_235 (by decide) ?_
    refine lv_aload_n hx hb dX1_perform_310 rfl (lv_at hl 3 rfl) ?_
    refine lv_iload hx hb dX1_perform_311 (lv_at hl 0 rfl) ?_
    obtain ⟨X83, eX83, hk⟩ := lq_s hk
    refine pf_RX1_37 hx hb hts hown hZ hK hP hS hi0 dX1_perform_313 (fun H locs hP hS => ?_)
    rw [← eX83] at hP
    cases (show some _ = some _ from hk)
    exact we_v hx hb hr hlocks hP rfl hS dX1_perform_316 (by decide) (by decide)
  have hk := it_f cz76 hk
  refine lv_lookup (off := 287) (tgt := 310) hx hb dX1_perform_23 (by decide) ((lv_osw cz7 (by decide)).trans ((lv_osw cz18 (by decide)).trans ((lv_osw cz23 (by decide)).trans ((lv_osw cz28 (by decide)).trans ((lv_osw cz33 (by decide)).trans ((lv_osw cz39 (by decide)).trans ((lv_osw cz45 (by decide)).trans ((lv_osw cz50 (by decide)).trans ((lv_osw cz58 (by decide)).trans ((lv_osw cz63 (by decide)).trans ((lv_osw cz71 (by decide)).trans ((lv_osw cz76 (by decide)).trans rfl)))))))))))) (by decide) ?_
  refine lv_aload_n hx hb dX1_perform_310 rfl (lv_at hl 3 rfl) ?_
  refine lv_iload hx hb dX1_perform_311 (lv_at hl 0 rfl) ?_
  obtain ⟨X84, eX84, hk⟩ := lq_s hk
  refine pf_RX1_37 hx hb hts hown hZ hK hP hS hi0 dX1_perform_313 (fun H locs hP hS => ?_)
  rw [← eX84] at hP
  cases (show some _ = some _ from hk)
  exact we_v hx hb hr hlocks hP rfl hS dX1_perform_316 (by decide) (by decide)
set_option maxHeartbeats 4000000 in
set_option maxRecDepth 100000 in
theorem k_X1_isAsExpected (l : Launch) (hfl : l.stackTraces = false) (Z : ZT) (hZ : wD Z) (X M O : SS) (i0 : Nat) (i1 : Nat) (hi0 : i0 < 2) (hi1 : i1 < 41) (r : Int32) (hf : f_X1_isAsExpected X i0 i1 = some (r)) (sz : Nat) : vx_Met l yX1_isAsExpected ws_X1_isAsExpected rm_X1_isAsExpected (va_Pc [.ref (Z.2.2 16 i0), .ref (Z.2.2 4 i1)] (cP Z (X, M, O) sz)) (cQi Z (X, M, O) (.inl r) sz) (cX Z (X, M, O) (.inl r : Int32 ⊕ String) sz) 0 0 (wA Z sz) := by
  refine vx_ofW (cc := cX1_isAsExpected) (maxL := 3) (ret := (some .boolean)) (by decide) rfl ?_
  intro p e s m args below meth c s₁ B hml htab hv
  obtain ⟨hargs, hsz, hE, hP, hK⟩ := hv
  have hx := B.exec
  have hb := B.bytes
  have hr := B.returns
  have hts0 := atoms_spec (ws := ws_X1_isAsExpected) B.pre
  have hts : ∀ w ∈ lw_all, w.before args s = true := fun w h => hts0 w (List.mem_cons_of_mem _ h)
  have hown : s.vm.findClass RX1 = some m.cls := findClass_of_methodNamed B.named
  have hlocks := B.notSynchronized
  have hout9 : ∀ (pc9 : Nat), ∀ x ∈ c.exceptionTable.toList, covers x pc9 = false := fun _ x hx9 => (htab x hx9).elim
  subst hsz
  have hS : va_S (wA Z s.heap.size) s.heap s.heap [] := va_S.rf
  have hl := lv_entry ([.ref (Z.2.2 16 i0), .ref (Z.2.2 4 i1)]) (n := 3) (Nat.le_of_ble_eq_true rfl)
  have hen : entryFrame m args 3 = entryFrame m ([.ref (Z.2.2 16 i0), .ref (Z.2.2 4 i1)] : List Value).toArray 3 := by rw [hargs]
  rw [hen, lg_entry_eq]
  generalize (lg_sl ([.ref (Z.2.2 16 i0), .ref (Z.2.2 4 i1)]) ++ List.replicate (3 - (lg_sl ([.ref (Z.2.2 16 i0), .ref (Z.2.2 4 i1)])).length) Slot.unset).toArray = ls at hl ⊢
  have hl : lv_has ls 3 [(0, .ref (Z.2.2 16 i0)), (1, .ref (Z.2.2 4 i1))] := hl
  have hk := hf
  unfold f_X1_isAsExpected at hk
  refine lv_aload_n hx hb dX1_isAsExpected_0 rfl (lv_at hl 0 rfl) ?_
  refine gf_RX1_28 hx hb hts hown hK hP hi0 dX1_isAsExpected_1 ?_
  refine lv_aload_n hx hb dX1_isAsExpected_4 rfl (lv_at hl 1 rfl) ?_
  refine gf_RX1_99 hx hb hts hown hK hP hi1 dX1_isAsExpected_5 ?_
  refine lv_icmp_eq (tgt := 13) hx hb dX1_isAsExpected_8 (by decide) (fun cz1 => ?_) (fun cz1 => ?_)
  · have hk := it_t cz1 hk
    refine lv_iconst (v := (0 : Int32)) hx hb dX1_isAsExpected_13 (by decide) ?_
    refine lv_istore_n (lv' := [(2, .int (0 : Int32)), (0, .ref (Z.2.2 16 i0)), (1, .ref (Z.2.2 4 i1))]) hx hb dX1_isAsExpected_14 rfl hl (by decide) rfl (fun ls hl => ?_)
    obtain ⟨k2, hk2, hk⟩ := gn hk
    have ex2 : ∀ (H : Heap) (locs : List Loc) (ls : Array Slot), k2 () = some (r) → wP Z (X, M, O) H → va_S (wA Z s.heap.size) s.heap H locs → lv_has ls 3 [] → W p l e (headSpec ws_X1_isAsExpected rm_X1_isAsExpected).room s m args below meth c H locs 0 0 (vx_MQ below (cQi Z (X, M, O) (.inl r) s.heap.size) (cX Z (X, M, O) (.inl r : Int32 ⊕ String) s.heap.size) args s 0 0 (wA Z s.heap.size)) (F0 m 46 ls []) := by
      intro  H locs ls hk hP hS hl
      subst hk2
      refine lv_iconst (v := (1 : Int32)) hx hb dX1_isAsExpected_46 (by decide) ?_
      cases (show some _ = some _ from hk)
      exact we_z hx hb hr hlocks (show okz (1 : Int32) by unfold okz; decide).1 hP rfl hS dX1_isAsExpected_47 (by decide) (by decide)
    have lp2 : ∀ (n : Nat) (v3 : Int32) (H : Heap) (locs : List Loc) (ls : Array Slot), f_X1_isAsExpected_L15 X i0 i1 n v3 k2 = some (r) → wP Z (X, M, O) H → va_S (wA Z s.heap.size) s.heap H locs → lv_has ls 3 [(2, .int v3), (0, .ref (Z.2.2 16 i0)), (1, .ref (Z.2.2 4 i1))] → W p l e (headSpec ws_X1_isAsExpected rm_X1_isAsExpected).room s m args below meth c H locs 0 0 (vx_MQ below (cQi Z (X, M, O) (.inl r) s.heap.size) (cX Z (X, M, O) (.inl r : Int32 ⊕ String) s.heap.size) args s 0 0 (wA Z s.heap.size)) (F0 m 15 ls []) := by
      intro n
      induction n with
      | zero =>
        intro v3 H locs ls hk
        rw [f_X1_isAsExpected_L15] at hk
        exact nomatch (show none = some _ from hk)
      | succ n ih =>
        intro v3 H locs ls hk hP hS hl
        rw [f_X1_isAsExpected_L15] at hk
        refine lv_iload_n hx hb dX1_isAsExpected_15 rfl (lv_at hl 0 rfl) ?_
        refine lv_aload_n hx hb dX1_isAsExpected_16 rfl (lv_at hl 1 rfl) ?_
        refine gf_RX1_28 hx hb hts hown hK hP hi0 dX1_isAsExpected_17 ?_
        refine lv_icmp_ge (tgt := 46) hx hb dX1_isAsExpected_20 (by decide) (fun cz4 => ?_) (fun cz4 => ?_)
        · have hk := it_t cz4 hk
          exact ex2 _ _ _ hk hP hS (lv_sub hl [] rfl)
        · have hk := it_f cz4 hk
          refine lv_aload_n hx hb dX1_isAsExpected_23 rfl (lv_at hl 1 rfl) ?_
          refine gf_RX1_15 hx hb hts hown hK hP hi0 dX1_isAsExpected_24 ?_
          refine lv_iload_n hx hb dX1_isAsExpected_27 rfl (lv_at hl 0 rfl) ?_
          obtain ⟨hg5, hk⟩ := gd_s hk
          refine wa_iaload_18 hx hb hK hP hi0 hg5 dX1_isAsExpected_28 ?_
          refine lv_aload_n hx hb dX1_isAsExpected_29 rfl (lv_at hl 2 rfl) ?_
          refine gf_RX1_102 hx hb hts hown hK hP hi1 dX1_isAsExpected_30 ?_
          refine lv_iload_n hx hb dX1_isAsExpected_33 rfl (lv_at hl 0 rfl) ?_
          obtain ⟨hg6, hk⟩ := gd_s hk
          refine wa_iaload_6 hx hb hK hP hi1 hg6 dX1_isAsExpected_34 ?_
          refine lv_icmp_eq (tgt := 40) hx hb dX1_isAsExpected_35 (by decide) (fun cz7 => ?_) (fun cz7 => ?_)
          · have hk := it_t cz7 hk
            refine lv_iinc (v := (v3 + (1 : Int32))) (lv' := [(2, .int (v3 + (1 : Int32))), (0, .ref (Z.2.2 16 i0)), (1, .ref (Z.2.2 4 i1))]) hx hb dX1_isAsExpected_40 hl (k := 0) rfl rfl (by decide) rfl (fun ls hl => ?_)
            refine lv_goto (tgt := 15) hx hb dX1_isAsExpected_43 (by decide) ?_
            exact ih (v3 + (1 : Int32)) _ _ _ hk hP hS (lv_sub hl [0, 1, 2] rfl)
          · have hk := it_f cz7 hk
            refine lv_iconst (v := (0 : Int32)) hx hb dX1_isAsExpected_38 (by decide) ?_
            cases (show some _ = some _ from hk)
            exact we_z hx hb hr hlocks (show okz (0 : Int32) by unfold okz; decide).1 hP rfl hS dX1_isAsExpected_39 (by decide) (by decide)
    exact lp2 1000 (0 : Int32) _ _ _ hk hP hS (lv_sub hl [0, 1, 2] rfl)
  · have hk := it_f cz1 hk
    refine lv_iconst (v := (0 : Int32)) hx hb dX1_isAsExpected_11 (by decide) ?_
    cases (show some _ = some _ from hk)
    exact we_z hx hb hr hlocks (show okz (0 : Int32) by unfold okz; decide).1 hP rfl hS dX1_isAsExpected_12 (by decide) (by decide)
set_option maxHeartbeats 4000000 in
set_option maxRecDepth 100000 in
theorem k_X1_execute (l : Launch) (hfl : l.stackTraces = false) (Z : ZT) (hZ : wD Z) (X M O : SS) (i0 : Nat) (i1 : Nat) (i2 : Nat) (hi0 : i0 < 2) (hi1 : i1 < 71) (hi2 : i2 < 41) (Xz : SS) (r : Int32) (hf : f_X1_execute X i0 i1 i2 = some (Xz, r)) (sz : Nat) : vx_Met l yX1_execute ws_X1_execute rm_X1_execute (va_Pc [.ref (Z.2.2 16 i0), .ref (Z.2.2 1 i1), .ref (Z.2.2 4 i2)] (cP Z (X, M, O) sz)) (cQi Z (Xz, M, O) (.inl r) sz) (cX Z (Xz, M, O) (.inl r : Int32 ⊕ String) sz) 0 0 (wA Z sz) := by
  refine vx_ofW (cc := cX1_execute) (maxL := 6) (ret := (some .char)) (by decide) rfl ?_
  intro p e s m args below meth c s₁ B hml htab hv
  obtain ⟨hargs, hsz, hE, hP, hK⟩ := hv
  have hx := B.exec
  have hb := B.bytes
  have hr := B.returns
  have hts0 := atoms_spec (ws := ws_X1_execute) B.pre
  have hts : ∀ w ∈ lw_all, w.before args s = true := fun w h => hts0 w (List.mem_cons_of_mem _ h)
  have hown : s.vm.findClass RX1 = some m.cls := findClass_of_methodNamed B.named
  have hlocks := B.notSynchronized
  have hout9 : ∀ (pc9 : Nat), ∀ x ∈ c.exceptionTable.toList, covers x pc9 = false := fun _ x hx9 => (htab x hx9).elim
  subst hsz
  have hS : va_S (wA Z s.heap.size) s.heap s.heap [] := va_S.rf
  have hl := lv_entry ([.ref (Z.2.2 16 i0), .ref (Z.2.2 1 i1), .ref (Z.2.2 4 i2)]) (n := 6) (Nat.le_of_ble_eq_true rfl)
  have hen : entryFrame m args 6 = entryFrame m ([.ref (Z.2.2 16 i0), .ref (Z.2.2 1 i1), .ref (Z.2.2 4 i2)] : List Value).toArray 6 := by rw [hargs]
  rw [hen, lg_entry_eq]
  generalize (lg_sl ([.ref (Z.2.2 16 i0), .ref (Z.2.2 1 i1), .ref (Z.2.2 4 i2)]) ++ List.replicate (6 - (lg_sl ([.ref (Z.2.2 16 i0), .ref (Z.2.2 1 i1), .ref (Z.2.2 4 i2)])).length) Slot.unset).toArray = ls at hl ⊢
  have hl : lv_has ls 6 [(0, .ref (Z.2.2 16 i0)), (1, .ref (Z.2.2 1 i1)), (2, .ref (Z.2.2 4 i2))] := hl
  have hk := hf
  unfold f_X1_execute at hk
  refine lv_aload_n hx hb dX1_execute_0 rfl (lv_at hl 0 rfl) ?_
  refine lv_aload_n hx hb dX1_execute_1 rfl (lv_at hl 1 rfl) ?_
  obtain ⟨X2, v1, hf3, hk⟩ := b1_s hk
  refine wc_vV0 (rest := []) (As := [.ref (Z.2.2 1 i1)]) ⟨hx, hb, hml, hown, hts⟩ (fun sz => k_X1_pairBrackets l hfl Z hZ X M O i0 i1 hi0 hi1 X2 v1 hf3 sz) (cw_RX1_40 (args := args) (s := s) hts (Nat.le_of_ble_eq_true rfl) (Nat.le_of_ble_eq_true rfl)) hE hP hK hS (rv_16 hK hP hi0) rfl hl.1 rfl (Nat.le_of_ble_eq_true rfl) dX1_execute_2 ⟨Nat.le_of_ble_eq_true rfl, Nat.le_of_ble_eq_true rfl⟩ (fun H locs hP hS => ?_)
  refine lv_aload_n hx hb dX1_execute_5 rfl (lv_at hl 0 rfl) ?_
  refine lv_iconst (v := (0 : Int32)) hx hb dX1_execute_6 (by decide) ?_
  obtain ⟨X4, eX4, hk⟩ := lq_s hk
  refine pf_RX1_24 hx hb hts hown hZ hK hP hS hi0 dX1_execute_7 (fun H locs hP hS => ?_)
  rw [← eX4] at hP
  refine lv_aload_n hx hb dX1_execute_10 rfl (lv_at hl 0 rfl) ?_
  refine lv_iconst (v := (0 : Int32)) hx hb dX1_execute_11 (by decide) ?_
  obtain ⟨X5, eX5, hk⟩ := lq_s hk
  refine pf_RX1_28 hx hb hts hown hZ hK hP hS hi0 dX1_execute_12 (fun H locs hP hS => ?_)
  rw [← eX5] at hP
  refine lv_aload_n hx hb dX1_execute_15 rfl (lv_at hl 0 rfl) ?_
  refine lv_iconst (v := (0 : Int32)) hx hb dX1_execute_16 (by decide) ?_
  obtain ⟨X6, eX6, hk⟩ := lq_s hk
  refine pf_RX1_31 hx hb hts hown hZ hK hP hS hi0 dX1_execute_17 (fun H locs hP hS => ?_)
  rw [← eX6] at hP
  refine lv_aload_n hx hb dX1_execute_20 rfl (lv_at hl 0 rfl) ?_
  refine lv_iconst (v := (0 : Int32)) hx hb dX1_execute_21 (by decide) ?_
  obtain ⟨X7, eX7, hk⟩ := lq_s hk
  refine pf_RX1_34 hx hb hts hown hZ hK hP hS hi0 dX1_execute_22 (fun H locs hP hS => ?_)
  rw [← eX7] at hP
  refine lv_aload_n hx hb dX1_execute_25 rfl (lv_at hl 0 rfl) ?_
  refine lv_iconst (v := (0 : Int32)) hx hb dX1_execute_26 (by decide) ?_
  obtain ⟨X8, eX8, hk⟩ := lq_s hk
  refine pf_RX1_37 hx hb hts hown hZ hK hP hS hi0 dX1_execute_27 (fun H locs hP hS => ?_)
  rw [← eX8] at hP
  refine lv_iconst (v := (0 : Int32)) hx hb dX1_execute_30 (by decide) ?_
  refine lv_istore_n (lv' := [(3, .int (0 : Int32)), (0, .ref (Z.2.2 16 i0)), (1, .ref (Z.2.2 1 i1)), (2, .ref (Z.2.2 4 i2))]) hx hb dX1_execute_31 rfl hl (by decide) rfl (fun ls hl => ?_)
  obtain ⟨k9, hk9, hk⟩ := gn hk
  have ex9 : ∀ (X10 : SS) (H : Heap) (locs : List Loc) (ls : Array Slot), k9 X10 = some (Xz, r) → wP Z (X10, M, O) H → va_S (wA Z s.heap.size) s.heap H locs → lv_has ls 6 [(0, .ref (Z.2.2 16 i0)), (2, .ref (Z.2.2 4 i2))] → W p l e (headSpec ws_X1_execute rm_X1_execute).room s m args below meth c H locs 0 0 (vx_MQ below (cQi Z (Xz, M, O) (.inl r) s.heap.size) (cX Z (Xz, M, O) (.inl r : Int32 ⊕ String) s.heap.size) args s 0 0 (wA Z s.heap.size)) (F0 m 112 ls []) := by
    intro X10 H locs ls hk hP hS hl
    subst hk9
    refine lv_aload_n hx hb dX1_execute_112 rfl (lv_at hl 0 rfl) ?_
    refine lv_aload_n hx hb dX1_execute_113 rfl (lv_at hl 1 rfl) ?_
    obtain ⟨v13, hf14, hk⟩ := b0_s hk
    refine wc_iV0 (rest := []) (As := [.ref (Z.2.2 4 i2)]) ⟨hx, hb, hml, hown, hts⟩ (fun sz => k_X1_isAsExpected l hfl Z hZ X10 M O i0 i2 hi0 hi2 v13 hf14 sz) (cw_RX1_64 (args := args) (s := s) hts (Nat.le_of_ble_eq_true rfl) (Nat.le_of_ble_eq_true rfl)) hE hP hK hS (rv_16 hK hP hi0) rfl hl.1 rfl (Nat.le_of_ble_eq_true rfl) dX1_execute_114 ⟨Nat.le_of_ble_eq_true rfl, Nat.le_of_ble_eq_true rfl⟩ (fun H locs hP hS => ?_)
    refine lv_if_eq (tgt := 125) hx hb dX1_execute_117 (by decide) (fun cz15 => ?_) (fun cz15 => ?_)
    · have hk := it_t cz15 hk
      refine lv_bipush (v := (119 : Int32)) hx hb dX1_execute_125 (by decide) ?_
      cases (show some _ = some _ from hk)
      exact we_z hx hb hr hlocks (show okc (119 : Int32) by unfold okc; decide).1 hP rfl hS dX1_execute_127 (by decide) (by decide)
    · have hk := it_f cz15 hk
      refine lv_bipush (v := (111 : Int32)) hx hb dX1_execute_120 (by decide) ?_
      refine lv_goto (tgt := 127) hx hb dX1_execute_122 (by decide) ?_
      cases (show some _ = some _ from hk)
      exact we_z hx hb hr hlocks (show okc (111 : Int32) by unfold okc; decide).1 hP rfl hS dX1_execute_127 (by decide) (by decide)
  have lp9 : ∀ (n : Nat) (v11 : Int32) (X12 : SS) (H : Heap) (locs : List Loc) (ls : Array Slot), f_X1_execute_L32 i1 i0 i2 n v11 X12 k9 = some (Xz, r) → wP Z (X12, M, O) H → va_S (wA Z s.heap.size) s.heap H locs → lv_has ls 6 [(3, .int v11), (0, .ref (Z.2.2 16 i0)), (1, .ref (Z.2.2 1 i1)), (2, .ref (Z.2.2 4 i2))] → W p l e (headSpec ws_X1_execute rm_X1_execute).room s m args below meth c H locs 0 0 (vx_MQ below (cQi Z (Xz, M, O) (.inl r) s.heap.size) (cX Z (Xz, M, O) (.inl r : Int32 ⊕ String) s.heap.size) args s 0 0 (wA Z s.heap.size)) (F0 m 32 ls []) := by
    intro n
    induction n with
    | zero =>
      intro v11 X12 H locs ls hk
      rw [f_X1_execute_L32] at hk
      exact nomatch (show none = some _ from hk)
    | succ n ih =>
      intro v11 X12 H locs ls hk hP hS hl
      rw [f_X1_execute_L32] at hk
      refine lv_iload_n hx hb dX1_execute_32 rfl (lv_at hl 0 rfl) ?_
      refine lv_sipush (v := (300 : Int32)) hx hb dX1_execute_33 (by decide) ?_
      refine lv_icmp_gt (tgt := 112) hx hb dX1_execute_36 (by decide) (fun cz16 => ?_) (fun cz16 => ?_)
      · have hk := it_t cz16 hk
        exact ex9 X12 _ _ _ hk hP hS (lv_sub hl [1, 3] rfl)
      · have hk := it_f cz16 hk
        refine lv_aload_n hx hb dX1_execute_39 rfl (lv_at hl 1 rfl) ?_
        refine gf_RX1_37 hx hb hts hown hK hP hi0 dX1_execute_40 ?_
        refine lv_aload_n hx hb dX1_execute_43 rfl (lv_at hl 2 rfl) ?_
        refine gf_RX1_44 hx hb hts hown hK hP hi1 dX1_execute_44 ?_
        refine lv_icmp_ge (tgt := 112) hx hb dX1_execute_47 (by decide) (fun cz17 => ?_) (fun cz17 => ?_)
        · have hk := it_t cz17 hk
          exact ex9 X12 _ _ _ hk hP hS (lv_sub hl [1, 3] rfl)
        · have hk := it_f cz17 hk
          refine lv_aload_n hx hb dX1_execute_50 rfl (lv_at hl 2 rfl) ?_
          refine gf_RX1_49 hx hb hts hown hK hP hi1 dX1_execute_51 ?_
          refine lv_aload_n hx hb dX1_execute_54 rfl (lv_at hl 1 rfl) ?_
          refine gf_RX1_37 hx hb hts hown hK hP hi0 dX1_execute_55 ?_
          obtain ⟨hg18, hk⟩ := gd_s hk
          refine wa_caload_2 hx hb hK hP hi1 hg18 dX1_execute_58 ?_
          obtain ⟨v19, ev19, hk⟩ := lq_s hk
          refine W.eq (g2 := F0 m 59 ls [.int v19]) (by rw [ev19]) ?_
          refine lv_istore (lv' := [(4, .int v19), (3, .int v11), (0, .ref (Z.2.2 16 i0)), (1, .ref (Z.2.2 1 i1)), (2, .ref (Z.2.2 4 i2))]) hx hb dX1_execute_59 hl (by decide) rfl (fun ls hl => ?_)
          refine lv_aload_n hx hb dX1_execute_61 rfl (lv_at hl 2 rfl) ?_
          refine lv_iload hx hb dX1_execute_62 (lv_at hl 0 rfl) ?_
          refine lv_aload_n hx hb dX1_execute_64 rfl (lv_at hl 4 rfl) ?_
          obtain ⟨v20, hf21, hk⟩ := b0_s hk
          refine wc_iV0 (rest := []) (As := [.int v19, .ref (Z.2.2 4 i2)]) ⟨hx, hb, hml, hown, hts⟩ (fun sz => k_X1_errorOf l hfl Z hZ X12 M O i0 v19 i2 hi0 hi2 v20 hf21 sz) (cw_RX1_53 (args := args) (s := s) hts (Nat.le_of_ble_eq_true rfl) (Nat.le_of_ble_eq_true rfl)) hE hP hK hS (rv_16 hK hP hi0) rfl hl.1 rfl (Nat.le_of_ble_eq_true rfl) dX1_execute_65 ⟨Nat.le_of_ble_eq_true rfl, Nat.le_of_ble_eq_true rfl⟩ (fun H locs hP hS => ?_)
          refine lv_istore (lv' := [(5, .int v20), (4, .int v19), (3, .int v11), (0, .ref (Z.2.2 16 i0)), (1, .ref (Z.2.2 1 i1)), (2, .ref (Z.2.2 4 i2))]) hx hb dX1_execute_68 hl (by decide) rfl (fun ls hl => ?_)
          refine lv_iload hx hb dX1_execute_70 (lv_at hl 0 rfl) ?_
          refine lv_bipush (v := (32 : Int32)) hx hb dX1_execute_72 (by decide) ?_
          refine lv_icmp_eq (tgt := 80) hx hb dX1_execute_74 (by decide) (fun cz22 => ?_) (fun cz22 => ?_)
          · have hk := it_t cz22 hk
            refine lv_aload_n hx hb dX1_execute_80 rfl (lv_at hl 3 rfl) ?_
            refine lv_iload hx hb dX1_execute_81 (lv_at hl 1 rfl) ?_
            refine lv_aload_n hx hb dX1_execute_83 rfl (lv_at hl 4 rfl) ?_
            refine gf_RX1_57 hx hb hts hown hK hP hi1 dX1_execute_84 ?_
            refine lv_aload_n hx hb dX1_execute_87 rfl (lv_at hl 3 rfl) ?_
            refine gf_RX1_37 hx hb hts hown hK hP hi0 dX1_execute_88 ?_
            obtain ⟨hg23, hk⟩ := gd_s hk
            refine wa_iaload_3 hx hb hK hP hi1 hg23 dX1_execute_91 ?_
            refine lv_aload_n hx hb dX1_execute_92 rfl (lv_at hl 5 rfl) ?_
            obtain ⟨X25, v24, hf26, hk⟩ := b1_s hk
            refine wc_vV0 (rest := []) (As := [.int v19, .int (X12.1 3 i1 ((X12.1 16 i0 8)).toNatClampNeg), .ref (Z.2.2 4 i2)]) ⟨hx, hb, hml, hown, hts⟩ (fun sz => k_X1_perform l hfl Z hZ X12 M O i0 v19 (X12.1 3 i1 ((X12.1 16 i0 8)).toNatClampNeg) i2 hi0 hi2 X25 v24 hf26 sz) (cw_RX1_60 (args := args) (s := s) hts (Nat.le_of_ble_eq_true rfl) (Nat.le_of_ble_eq_true rfl)) hE hP hK hS (rv_16 hK hP hi0) rfl hl.1 rfl (Nat.le_of_ble_eq_true rfl) dX1_execute_93 ⟨Nat.le_of_ble_eq_true rfl, Nat.le_of_ble_eq_true rfl⟩ (fun H locs hP hS => ?_)
            refine lv_aload_n hx hb dX1_execute_96 rfl (lv_at hl 3 rfl) ?_
            refine lv_dup hx hb dX1_execute_97 rfl ?_
            refine gf_RX1_31 hx hb hts hown hK hP hi0 dX1_execute_98 ?_
            refine lv_iconst (v := (1 : Int32)) hx hb dX1_execute_101 (by decide) ?_
            refine lv_iadd hx hb dX1_execute_102 ?_
            obtain ⟨X27, eX27, hk⟩ := lq_s hk
            refine pf_RX1_31 hx hb hts hown hZ hK hP hS hi0 dX1_execute_103 (fun H locs hP hS => ?_)
            rw [← eX27] at hP
            refine lv_iinc (v := (v11 + (1 : Int32))) (lv' := [(3, .int (v11 + (1 : Int32))), (5, .int v20), (4, .int v19), (0, .ref (Z.2.2 16 i0)), (1, .ref (Z.2.2 1 i1)), (2, .ref (Z.2.2 4 i2))]) hx hb dX1_execute_106 hl (k := 2) rfl rfl (by decide) rfl (fun ls hl => ?_)
            refine lv_goto (tgt := 32) hx hb dX1_execute_109 (by decide) ?_
            exact ih (v11 + (1 : Int32)) X27 _ _ _ hk hP hS (lv_sub hl [0, 3, 4, 5] rfl)
          · have hk := it_f cz22 hk
            refine lv_iload hx hb dX1_execute_77 (lv_at hl 0 rfl) ?_
            obtain ⟨hg28, hk⟩ := gd_s hk
            cases (show some _ = some _ from hk)
            exact we_z hx hb hr hlocks hg28.1 hP rfl hS dX1_execute_79 (by decide) (by decide)
  exact lp9 1000 (0 : Int32) X8 _ _ _ hk hP hS (lv_sub hl [0, 1, 2, 3] rfl)