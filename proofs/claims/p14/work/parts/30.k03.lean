set_option maxHeartbeats 4000000 in
set_option maxRecDepth 100000 in
theorem k_X6_makeRoom (l : Launch) (hfl : l.stackTraces = false) (Z : ZT) (hZ : wD Z) (X M O : SS) (Xz : SS) (r : Int32) (hf : f_X6_makeRoom X = some (Xz, r)) (sz : Nat) : vx_Met l yX6_makeRoom ws_X6_makeRoom rm_X6_makeRoom (va_Pc [.ref (Z.2.2 0 0)] (cP Z (X, M, O) sz)) (cQi Z (Xz, M, O) (.inl r) sz) (cX Z (Xz, M, O) (.inl r : Int32 ⊕ String) sz) 0 0 (wA Z sz) := by
  refine vx_ofW (cc := cX6_makeRoom) (maxL := 4) (ret := (some .int)) (by decide) rfl ?_
  intro p e s m args below meth c s₁ B hml htab hv
  obtain ⟨hargs, hsz, hE, hP, hK⟩ := hv
  have hx := B.exec
  have hb := B.bytes
  have hr := B.returns
  have hts0 := atoms_spec (ws := ws_X6_makeRoom) B.pre
  have hts : ∀ w ∈ lw_all, w.before args s = true := fun w h => hts0 w (List.mem_cons_of_mem _ h)
  have hown : s.vm.findClass RX6 = some m.cls := findClass_of_methodNamed B.named
  have hlocks := B.notSynchronized
  have hout9 : ∀ (pc9 : Nat), ∀ x ∈ c.exceptionTable.toList, covers x pc9 = false := fun _ x hx9 => (htab x hx9).elim
  subst hsz
  have hS : va_S (wA Z s.heap.size) s.heap s.heap [] := va_S.rf
  have hl := lv_entry ([.ref (Z.2.2 0 0)]) (n := 4) (Nat.le_of_ble_eq_true rfl)
  have hen : entryFrame m args 4 = entryFrame m ([.ref (Z.2.2 0 0)] : List Value).toArray 4 := by rw [hargs]
  rw [hen, lg_entry_eq]
  generalize (lg_sl ([.ref (Z.2.2 0 0)]) ++ List.replicate (4 - (lg_sl ([.ref (Z.2.2 0 0)])).length) Slot.unset).toArray = ls at hl ⊢
  have hl : lv_has ls 4 [(0, .ref (Z.2.2 0 0))] := hl
  have hk := hf
  unfold f_X6_makeRoom at hk
  refine lv_iconst (v := (0 : Int32)) hx hb dX6_makeRoom_0 (by decide) ?_
  refine lv_istore_n (lv' := [(1, .int (0 : Int32)), (0, .ref (Z.2.2 0 0))]) hx hb dX6_makeRoom_1 rfl hl (by decide) rfl (fun ls hl => ?_)
  refine lv_aload_n hx hb dX6_makeRoom_2 rfl (lv_at hl 1 rfl) ?_
  obtain ⟨v1, hf2, hk⟩ := b0_s hk
  refine wc_iV0 (rest := []) (As := []) ⟨hx, hb, hml, hown, hts⟩ (fun sz => k_X6_bodyCount l hfl Z hZ X M O v1 hf2 sz) (cw_RX6_270 (args := args) (s := s) hts (Nat.le_of_ble_eq_true rfl) (Nat.le_of_ble_eq_true rfl)) hE hP hK hS (rv_0 hK hP (by decide)) rfl hl.1 rfl (Nat.le_of_ble_eq_true rfl) dX6_makeRoom_3 ⟨Nat.le_of_ble_eq_true rfl, Nat.le_of_ble_eq_true rfl⟩ (fun H locs hP hS => ?_)
  refine lv_aload_n hx hb dX6_makeRoom_6 rfl (lv_at hl 1 rfl) ?_
  refine gf_RX6_71 hx hb hts hown hK hP (by decide) dX6_makeRoom_7 ?_
  refine lv_isub hx hb dX6_makeRoom_10 ?_
  obtain ⟨v3, ev3, hk⟩ := lq_s hk
  refine W.eq (g2 := F0 m 11 ls [.int v3]) (by rw [ev3]) ?_
  refine lv_istore_n (lv' := [(2, .int v3), (1, .int (0 : Int32)), (0, .ref (Z.2.2 0 0))]) hx hb dX6_makeRoom_11 rfl hl (by decide) rfl (fun ls hl => ?_)
  obtain ⟨k4, hk4, hk⟩ := gn hk
  have ex4 : ∀ (v5 : Int32) (X6 : SS) (H : Heap) (locs : List Loc) (ls : Array Slot), k4 v5 X6 = some (Xz, r) → wP Z (X6, M, O) H → va_S (wA Z s.heap.size) s.heap H locs → lv_has ls 4 [(1, .int v5)] → W p l e (headSpec ws_X6_makeRoom rm_X6_makeRoom).room s m args below meth c H locs 0 0 (vx_MQ below (cQi Z (Xz, M, O) (.inl r) s.heap.size) (cX Z (Xz, M, O) (.inl r : Int32 ⊕ String) s.heap.size) args s 0 0 (wA Z s.heap.size)) (F0 m 45 ls []) := by
    intro v5 X6 H locs ls hk hP hS hl
    subst hk4
    refine lv_iload_n hx hb dX6_makeRoom_45 rfl (lv_at hl 0 rfl) ?_
    cases (show some _ = some _ from hk)
    exact we_i hx hb hr hlocks hP rfl hS dX6_makeRoom_46 (by decide) (by decide)
  have lp4 : ∀ (n : Nat) (v7 : Int32) (v8 : Int32) (X9 : SS) (H : Heap) (locs : List Loc) (ls : Array Slot), f_X6_makeRoom_L12  n v7 v8 X9 k4 = some (Xz, r) → wP Z (X9, M, O) H → va_S (wA Z s.heap.size) s.heap H locs → lv_has ls 4 [(2, .int v7), (1, .int v8), (0, .ref (Z.2.2 0 0))] → W p l e (headSpec ws_X6_makeRoom rm_X6_makeRoom).room s m args below meth c H locs 0 0 (vx_MQ below (cQi Z (Xz, M, O) (.inl r) s.heap.size) (cX Z (Xz, M, O) (.inl r : Int32 ⊕ String) s.heap.size) args s 0 0 (wA Z s.heap.size)) (F0 m 12 ls []) := by
    intro n
    induction n with
    | zero =>
      intro v7 v8 X9 H locs ls hk
      rw [f_X6_makeRoom_L12] at hk
      exact nomatch (show none = some _ from hk)
    | succ n ih =>
      intro v7 v8 X9 H locs ls hk hP hS hl
      rw [f_X6_makeRoom_L12] at hk
      refine lv_iload_n hx hb dX6_makeRoom_12 rfl (lv_at hl 0 rfl) ?_
      refine lv_if_le (tgt := 45) hx hb dX6_makeRoom_13 (by decide) (fun cz10 => ?_) (fun cz10 => ?_)
      · have hk := it_t cz10 hk
        exact ex4 v8 X9 _ _ _ hk hP hS (lv_sub hl [1] rfl)
      · have hk := it_f cz10 hk
        refine lv_aload_n hx hb dX6_makeRoom_16 rfl (lv_at hl 2 rfl) ?_
        obtain ⟨v11, hf12, hk⟩ := b0_s hk
        refine wc_iV0 (rest := []) (As := []) ⟨hx, hb, hml, hown, hts⟩ (fun sz => k_X6_nextToDrop l hfl Z hZ X9 M O v11 hf12 sz) (cw_RX6_438 (args := args) (s := s) hts (Nat.le_of_ble_eq_true rfl) (Nat.le_of_ble_eq_true rfl)) hE hP hK hS (rv_0 hK hP (by decide)) rfl hl.1 rfl (Nat.le_of_ble_eq_true rfl) dX6_makeRoom_17 ⟨Nat.le_of_ble_eq_true rfl, Nat.le_of_ble_eq_true rfl⟩ (fun H locs hP hS => ?_)
        refine lv_istore_n (lv' := [(3, .int v11), (2, .int v7), (1, .int v8), (0, .ref (Z.2.2 0 0))]) hx hb dX6_makeRoom_20 rfl hl (by decide) rfl (fun ls hl => ?_)
        refine lv_iload_n hx hb dX6_makeRoom_21 rfl (lv_at hl 0 rfl) ?_
        refine lv_iconst (v := ((-1) : Int32)) hx hb dX6_makeRoom_22 (by decide) ?_
        refine lv_icmp_eq (tgt := 39) hx hb dX6_makeRoom_23 (by decide) (fun cz13 => ?_) (fun cz13 => ?_)
        · have hk := it_t cz13 hk
          refine lv_iinc (v := (v7 + ((-1) : Int32))) (lv' := [(2, .int (v7 + ((-1) : Int32))), (3, .int v11), (1, .int v8), (0, .ref (Z.2.2 0 0))]) hx hb dX6_makeRoom_39 hl (k := 1) rfl rfl (by decide) rfl (fun ls hl => ?_)
          refine lv_goto (tgt := 12) hx hb dX6_makeRoom_42 (by decide) ?_
          exact ih (v7 + ((-1) : Int32)) v8 X9 _ _ _ hk hP hS (lv_sub hl [0, 2, 3] rfl)
        · have hk := it_f cz13 hk
          refine lv_aload_n hx hb dX6_makeRoom_26 rfl (lv_at hl 3 rfl) ?_
          refine lv_aload_n hx hb dX6_makeRoom_27 rfl (lv_at hl 3 rfl) ?_
          refine gf_RX6_37 hx hb hts hown hK hP (by decide) dX6_makeRoom_28 ?_
          refine lv_iload_n hx hb dX6_makeRoom_31 rfl (lv_at hl 0 rfl) ?_
          obtain ⟨hg14, hk⟩ := gd_s hk
          refine wa_aaload_23 hx hb hK hP (by decide) hg14 dX6_makeRoom_32 ?_
          obtain ⟨X16, v15, hf17, hk⟩ := b1_s hk
          refine wc_vV0 (rest := []) (As := [.ref (Z.2.2 12 (v11).toNatClampNeg)]) ⟨hx, hb, hml, hown, hts⟩ (fun sz => k_X6_dropBody l hfl Z hZ X9 M O (v11).toNatClampNeg (vp_lt hg14) X16 v15 hf17 sz) (cw_RX6_266 (args := args) (s := s) hts (Nat.le_of_ble_eq_true rfl) (Nat.le_of_ble_eq_true rfl)) hE hP hK hS (rv_0 hK hP (by decide)) rfl hl.1 rfl (Nat.le_of_ble_eq_true rfl) dX6_makeRoom_33 ⟨Nat.le_of_ble_eq_true rfl, Nat.le_of_ble_eq_true rfl⟩ (fun H locs hP hS => ?_)
          refine lv_iinc (v := (v8 + (1 : Int32))) (lv' := [(1, .int (v8 + (1 : Int32))), (3, .int v11), (2, .int v7), (0, .ref (Z.2.2 0 0))]) hx hb dX6_makeRoom_36 hl (k := 2) rfl rfl (by decide) rfl (fun ls hl => ?_)
          refine lv_iinc (v := (v7 + ((-1) : Int32))) (lv' := [(2, .int (v7 + ((-1) : Int32))), (1, .int (v8 + (1 : Int32))), (3, .int v11), (0, .ref (Z.2.2 0 0))]) hx hb dX6_makeRoom_39 hl (k := 2) rfl rfl (by decide) rfl (fun ls hl => ?_)
          refine lv_goto (tgt := 12) hx hb dX6_makeRoom_42 (by decide) ?_
          exact ih (v7 + ((-1) : Int32)) (v8 + (1 : Int32)) X16 _ _ _ hk hP hS (lv_sub hl [0, 1, 3] rfl)
  exact lp4 1000 v3 (0 : Int32) X _ _ _ hk hP hS (lv_sub hl [0, 1, 2] rfl)
set_option maxHeartbeats 4000000 in
set_option maxRecDepth 100000 in
theorem k_X6_submit (l : Launch) (hfl : l.stackTraces = false) (Z : ZT) (hZ : wD Z) (X M O : SS) (p0 : Int32) (p1 : Int32) (Xz : SS) (o : Int32 ⊕ String) (hf : f_X6_submit X p0 p1 = some (Xz, o)) (sz : Nat) : vx_Met l yX6_submit ws_X6_submit rm_X6_submit (va_Pc [.ref (Z.2.2 0 0), .int p0, .int p1] (cP Z (X, M, O) sz)) (cQi Z (Xz, M, O) o sz) (cX Z (Xz, M, O) o sz) 3 18 (wA Z sz) := by
  refine vx_ofW (cc := cX6_submit) (maxL := 5) (ret := (some .int)) (by decide) rfl ?_
  intro p e s m args below meth c s₁ B hml htab hv
  obtain ⟨hargs, hsz, hE, hP, hK⟩ := hv
  have hx := B.exec
  have hb := B.bytes
  have hr := B.returns
  have hts0 := atoms_spec (ws := ws_X6_submit) B.pre
  have hts : ∀ w ∈ lw_all, w.before args s = true := fun w h => hts0 w (List.mem_cons_of_mem _ h)
  have hown : s.vm.findClass RX6 = some m.cls := findClass_of_methodNamed B.named
  have hlocks := B.notSynchronized
  have hout9 : ∀ (pc9 : Nat), ∀ x ∈ c.exceptionTable.toList, covers x pc9 = false := fun _ x hx9 => (htab x hx9).elim
  subst hsz
  have hS : va_S (wA Z s.heap.size) s.heap s.heap [] := va_S.rf
  have hl := lv_entry ([.ref (Z.2.2 0 0), .int p0, .int p1]) (n := 5) (Nat.le_of_ble_eq_true rfl)
  have hen : entryFrame m args 5 = entryFrame m ([.ref (Z.2.2 0 0), .int p0, .int p1] : List Value).toArray 5 := by rw [hargs]
  rw [hen, lg_entry_eq]
  generalize (lg_sl ([.ref (Z.2.2 0 0), .int p0, .int p1]) ++ List.replicate (5 - (lg_sl ([.ref (Z.2.2 0 0), .int p0, .int p1])).length) Slot.unset).toArray = ls at hl ⊢
  have hl : lv_has ls 5 [(0, .ref (Z.2.2 0 0)), (1, .int p0), (2, .int p1)] := hl
  have hk := hf
  unfold f_X6_submit at hk
  refine lv_aload_n hx hb dX6_submit_0 rfl (lv_at hl 0 rfl) ?_
  refine lv_iload_n hx hb dX6_submit_1 rfl (lv_at hl 1 rfl) ?_
  obtain ⟨o3, hf2, hn5, he6⟩ := e0_s hk
  refine wc_qV (kd := 9) (rest := []) (As := [.int p0]) ⟨hx, hb, hml, hown, hts⟩ (fun sz => k_X6_memberAt l hfl Z hZ X M O p0 o3 hf2 sz) (cw_RX6_199 (args := args) (s := s) hts (Nat.le_of_ble_eq_true rfl) (Nat.le_of_ble_eq_true rfl)) hE hP hK hS (rv_0 hK hP (by decide)) rfl hl.1 rfl (Nat.le_of_ble_eq_true rfl) dX6_submit_2 ⟨Nat.le_of_ble_eq_true rfl, Nat.le_of_ble_eq_true rfl⟩ (fun E4 ce9 q9 H locs hoE hP hS hc9 hv9 hcl9 => ?_) (fun i1 hi1 H locs ho hP hS => ?_)
  · have hk := he6 _ hoE
    cases (show some _ = some _ from hk)
    exact vx_out (hout9 _) hlocks hc9 hv9 hcl9 (fun t8 ht8 hA8 => ⟨(), trivial, ⟨rfl, wP_eq ht8 hP⟩, hS.F ht8⟩) hS.2.2 (by decide) (by decide)
  have hk := hn5 _ ho
  refine lv_pop hx hb dX6_submit_5 rfl ?_
  refine lv_aload_n hx hb dX6_submit_6 rfl (lv_at hl 0 rfl) ?_
  refine lv_iload_n hx hb dX6_submit_7 rfl (lv_at hl 2 rfl) ?_
  obtain ⟨o9, hf8, hn11, he12⟩ := e0_s hk
  refine wc_qV (kd := 7) (rest := []) (As := [.int p1]) ⟨hx, hb, hml, hown, hts⟩ (fun sz => k_X6_kataAt l hfl Z hZ X M O p1 o9 hf8 sz) (cw_RX6_142 (args := args) (s := s) hts (Nat.le_of_ble_eq_true rfl) (Nat.le_of_ble_eq_true rfl)) hE hP hK hS (rv_0 hK hP (by decide)) rfl hl.1 rfl (Nat.le_of_ble_eq_true rfl) dX6_submit_8 ⟨Nat.le_of_ble_eq_true rfl, Nat.le_of_ble_eq_true rfl⟩ (fun E10 ce9 q9 H locs hoE hP hS hc9 hv9 hcl9 => ?_) (fun i7 hi7 H locs ho hP hS => ?_)
  · have hk := he12 _ hoE
    cases (show some _ = some _ from hk)
    exact vx_out (hout9 _) hlocks hc9 hv9 hcl9 (fun t8 ht8 hA8 => ⟨(), trivial, ⟨rfl, wP_eq ht8 hP⟩, hS.F ht8⟩) hS.2.2 (by decide) (by decide)
  have hk := hn11 _ ho
  refine lv_astore_n (lv' := [(3, .ref (Z.2.2 7 i7)), (0, .ref (Z.2.2 0 0)), (1, .int p0), (2, .int p1)]) hx hb dX6_submit_11 rfl hl (by decide) rfl (fun ls hl => ?_)
  refine lv_aload_n hx hb dX6_submit_12 rfl (lv_at hl 1 rfl) ?_
  refine gf_RX6_10 hx hb hts hown hK hP (by decide) dX6_submit_13 ?_
  obtain ⟨v13, hf14, hk⟩ := b0_s hk
  refine wc_iV0 (rest := []) (As := []) ⟨hx, hb, hml, hown, hts⟩ (fun sz => k_X3_isWhole l hfl Z hZ X M O 0 (by decide) v13 hf14 sz) (cw_RX6_163 (args := args) (s := s) hts (Nat.le_of_ble_eq_true rfl) (Nat.le_of_ble_eq_true rfl)) hE hP hK hS (rv_1 hK hP (by decide)) rfl hl.1 rfl (Nat.le_of_ble_eq_true rfl) dX6_submit_16 ⟨Nat.le_of_ble_eq_true rfl, Nat.le_of_ble_eq_true rfl⟩ (fun H locs hP hS => ?_)
  refine lv_if_eq (tgt := 29) hx hb dX6_submit_19 (by decide) (fun cz15 => ?_) (fun cz15 => ?_)
  · have hk := it_t cz15 hk
    cases (show some _ = some _ from hk)
    obtain ⟨sa, hstr⟩ := EV.str hE (own := RX6) (k := 203) (tx := "not whole, or no test") (by decide +kernel)
    exact vx_throwS (mc := 3) (ms := 18) (names := ["java/lang/RuntimeException", "java/lang/Exception"]) hx hb hfl hown (by decide +kernel) (by decide +kernel) (hts _ q838) (hts _ q98) hstr (th_171 hE hts) (by decide +kernel) (EV.zu hE) (EV.zn hE) hS (hl.1.trans hml.symm) dX6_submit_29 dX6_submit_32 dX6_submit_33 dX6_submit_35 dX6_submit_38 (hout9 _) (Nat.le_of_ble_eq_true rfl) (Nat.le_of_ble_eq_true rfl) (Nat.le_of_ble_eq_true rfl) (Nat.le_of_ble_eq_true rfl) hlocks (fun t9 _ h8 h9 => ⟨(), trivial, ⟨rfl, wP_kept hP h9⟩, fF hS h8 h9⟩) hS.2.2 (by decide) (by decide)
  · have hk := it_f cz15 hk
    refine lv_aload_n hx hb dX6_submit_22 rfl (lv_at hl 0 rfl) ?_
    refine gf_RX6_146 hx hb hts hown hK hP hi7 dX6_submit_23 ?_
    refine lv_if_ne (tgt := 39) hx hb dX6_submit_26 (by decide) (fun cz16 => ?_) (fun cz16 => ?_)
    · have hk := it_f cz16 hk
      refine lv_aload_n hx hb dX6_submit_39 rfl (lv_at hl 1 rfl) ?_
      refine gf_RX6_65 hx hb hts hown hK hP (by decide) dX6_submit_40 ?_
      refine lv_bipush (v := (40 : Int32)) hx hb dX6_submit_43 (by decide) ?_
      refine lv_icmp_lt (tgt := 58) hx hb dX6_submit_45 (by decide) (fun cz17 => ?_) (fun cz17 => ?_)
      · have hk := it_t cz17 hk
        refine lv_aload_n hx hb dX6_submit_58 rfl (lv_at hl 1 rfl) ?_
        refine lv_aload_n hx hb dX6_submit_59 rfl (lv_at hl 1 rfl) ?_
        refine gf_RX6_10 hx hb hts hown hK hP (by decide) dX6_submit_60 ?_
        refine lv_aload_n hx hb dX6_submit_63 rfl (lv_at hl 0 rfl) ?_
        obtain ⟨X19, v18, hf20, hk⟩ := b1_s hk
        refine wc_iV0 (rest := []) (As := [.ref (Z.2.2 1 0), .ref (Z.2.2 7 i7)]) ⟨hx, hb, hml, hown, hts⟩ (fun sz => k_X6_passesAll l hfl Z hZ X M O 0 i7 (by decide) hi7 X19 v18 hf20 sz) (cw_RX6_207 (args := args) (s := s) hts (Nat.le_of_ble_eq_true rfl) (Nat.le_of_ble_eq_true rfl)) hE hP hK hS (rv_0 hK hP (by decide)) rfl hl.1 rfl (Nat.le_of_ble_eq_true rfl) dX6_submit_64 ⟨Nat.le_of_ble_eq_true rfl, Nat.le_of_ble_eq_true rfl⟩ (fun H locs hP hS => ?_)
        refine lv_if_ne (tgt := 72) hx hb dX6_submit_67 (by decide) (fun cz21 => ?_) (fun cz21 => ?_)
        · have hk := it_f cz21 hk
          refine lv_aload_n hx hb dX6_submit_72 rfl (lv_at hl 1 rfl) ?_
          refine gf_RX6_65 hx hb hts hown hK hP (by decide) dX6_submit_73 ?_
          obtain ⟨v22, ev22, hk⟩ := lq_s hk
          refine W.eq (g2 := F0 m 76 ls [.int v22]) (by rw [ev22]) ?_
          refine lv_istore (lv' := [(4, .int v22), (3, .ref (Z.2.2 7 i7)), (0, .ref (Z.2.2 0 0)), (1, .int p0), (2, .int p1)]) hx hb dX6_submit_76 hl (by decide) rfl (fun ls hl => ?_)
          refine lv_aload_n hx hb dX6_submit_78 rfl (lv_at hl 2 rfl) ?_
          refine lv_dup hx hb dX6_submit_79 rfl ?_
          refine gf_RX6_65 hx hb hts hown hK hP (by decide) dX6_submit_80 ?_
          refine lv_iconst (v := (1 : Int32)) hx hb dX6_submit_83 (by decide) ?_
          refine lv_iadd hx hb dX6_submit_84 ?_
          obtain ⟨X23, eX23, hk⟩ := lq_s hk
          refine pf_RX6_65 hx hb hts hown hZ hK hP hS (by decide) dX6_submit_85 (fun H locs hP hS => ?_)
          rw [← eX23] at hP
          refine lv_aload_n hx hb dX6_submit_88 rfl (lv_at hl 2 rfl) ?_
          refine gf_RX6_37 hx hb hts hown hK hP (by decide) dX6_submit_89 ?_
          refine lv_iload hx hb dX6_submit_92 (lv_at hl 0 rfl) ?_
          obtain ⟨hg24, hk⟩ := gd_s hk
          refine wa_aaload_23 hx hb hK hP (by decide) hg24 dX6_submit_94 ?_
          refine lv_iload_n hx hb dX6_submit_95 rfl (lv_at hl 3 rfl) ?_
          refine lv_iload_n hx hb dX6_submit_96 rfl (lv_at hl 4 rfl) ?_
          refine lv_aload_n hx hb dX6_submit_97 rfl (lv_at hl 2 rfl) ?_
          refine gf_RX6_10 hx hb hts hown hK hP (by decide) dX6_submit_98 ?_
          obtain ⟨X26, v25, hf27, hk⟩ := b1_s hk
          refine wc_vV0 (rest := []) (As := [.int p0, .int p1, .ref (Z.2.2 1 0)]) ⟨hx, hb, hml, hown, hts⟩ (fun sz => k_X5_begin l hfl Z hZ X23 M O (v22).toNatClampNeg p0 p1 0 (vp_lt hg24) (by decide) X26 v25 hf27 sz) (cw_RX6_211 (args := args) (s := s) hts (Nat.le_of_ble_eq_true rfl) (Nat.le_of_ble_eq_true rfl)) hE hP hK hS (rv_12 hK hP (vp_lt hg24)) rfl hl.1 rfl (Nat.le_of_ble_eq_true rfl) dX6_submit_101 ⟨Nat.le_of_ble_eq_true rfl, Nat.le_of_ble_eq_true rfl⟩ (fun H locs hP hS => ?_)
          refine lv_aload_n hx hb dX6_submit_104 rfl (lv_at hl 2 rfl) ?_
          obtain ⟨X29, v28, hf30, hk⟩ := b1_s hk
          refine wc_iV0 (rest := []) (As := []) ⟨hx, hb, hml, hown, hts⟩ (fun sz => k_X6_makeRoom l hfl Z hZ X26 M O X29 v28 hf30 sz) (cw_RX6_215 (args := args) (s := s) hts (Nat.le_of_ble_eq_true rfl) (Nat.le_of_ble_eq_true rfl)) hE hP hK hS (rv_0 hK hP (by decide)) rfl hl.1 rfl (Nat.le_of_ble_eq_true rfl) dX6_submit_105 ⟨Nat.le_of_ble_eq_true rfl, Nat.le_of_ble_eq_true rfl⟩ (fun H locs hP hS => ?_)
          refine lv_pop hx hb dX6_submit_108 rfl ?_
          refine lv_iload hx hb dX6_submit_109 (lv_at hl 0 rfl) ?_
          cases (show some _ = some _ from hk)
          exact we_i hx hb hr hlocks hP rfl hS dX6_submit_111 (by decide) (by decide)
        · have hk := it_t cz21 hk
          refine lv_iconst (v := ((-1) : Int32)) hx hb dX6_submit_70 (by decide) ?_
          cases (show some _ = some _ from hk)
          exact we_i hx hb hr hlocks hP rfl hS dX6_submit_71 (by decide) (by decide)
      · have hk := it_f cz17 hk
        cases (show some _ = some _ from hk)
        obtain ⟨sa, hstr⟩ := EV.str hE (own := RX6) (k := 205) (tx := "there are 40 works") (by decide +kernel)
        exact vx_throwS (mc := 3) (ms := 18) (names := ["java/lang/RuntimeException", "java/lang/Exception"]) hx hb hfl hown (by decide +kernel) (by decide +kernel) (hts _ q705) (hts _ q95) hstr (th_112 hE hts) (by decide +kernel) (EV.zu hE) (EV.zn hE) hS (hl.1.trans hml.symm) dX6_submit_48 dX6_submit_51 dX6_submit_52 dX6_submit_54 dX6_submit_57 (hout9 _) (Nat.le_of_ble_eq_true rfl) (Nat.le_of_ble_eq_true rfl) (Nat.le_of_ble_eq_true rfl) (Nat.le_of_ble_eq_true rfl) hlocks (fun t9 _ h8 h9 => ⟨(), trivial, ⟨rfl, wP_kept hP h9⟩, fF hS h8 h9⟩) hS.2.2 (by decide) (by decide)
    · have hk := it_t cz16 hk
      cases (show some _ = some _ from hk)
      obtain ⟨sa, hstr⟩ := EV.str hE (own := RX6) (k := 203) (tx := "not whole, or no test") (by decide +kernel)
      exact vx_throwS (mc := 3) (ms := 18) (names := ["java/lang/RuntimeException", "java/lang/Exception"]) hx hb hfl hown (by decide +kernel) (by decide +kernel) (hts _ q838) (hts _ q98) hstr (th_171 hE hts) (by decide +kernel) (EV.zu hE) (EV.zn hE) hS (hl.1.trans hml.symm) dX6_submit_29 dX6_submit_32 dX6_submit_33 dX6_submit_35 dX6_submit_38 (hout9 _) (Nat.le_of_ble_eq_true rfl) (Nat.le_of_ble_eq_true rfl) (Nat.le_of_ble_eq_true rfl) (Nat.le_of_ble_eq_true rfl) hlocks (fun t9 _ h8 h9 => ⟨(), trivial, ⟨rfl, wP_kept hP h9⟩, fF hS h8 h9⟩) hS.2.2 (by decide) (by decide)
set_option maxHeartbeats 4000000 in
set_option maxRecDepth 100000 in
theorem k_X6_works (l : Launch) (hfl : l.stackTraces = false) (Z : ZT) (hZ : wD Z) (X M O : SS) (r : Int32) (hf : f_X6_works X = some (r)) (sz : Nat) : vx_Met l yX6_works ws_X6_works rm_X6_works (va_Pc [.ref (Z.2.2 0 0)] (cP Z (X, M, O) sz)) (cQi Z (X, M, O) (.inl r) sz) (cX Z (X, M, O) (.inl r : Int32 ⊕ String) sz) 0 0 (wA Z sz) := by
  refine vx_ofW (cc := cX6_works) (maxL := 1) (ret := (some .int)) (by decide) rfl ?_
  intro p e s m args below meth c s₁ B hml htab hv
  obtain ⟨hargs, hsz, hE, hP, hK⟩ := hv
  have hx := B.exec
  have hb := B.bytes
  have hr := B.returns
  have hts0 := atoms_spec (ws := ws_X6_works) B.pre
  have hts : ∀ w ∈ lw_all, w.before args s = true := fun w h => hts0 w (List.mem_cons_of_mem _ h)
  have hown : s.vm.findClass RX6 = some m.cls := findClass_of_methodNamed B.named
  have hlocks := B.notSynchronized
  have hout9 : ∀ (pc9 : Nat), ∀ x ∈ c.exceptionTable.toList, covers x pc9 = false := fun _ x hx9 => (htab x hx9).elim
  subst hsz
  have hS : va_S (wA Z s.heap.size) s.heap s.heap [] := va_S.rf
  have hl := lv_entry ([.ref (Z.2.2 0 0)]) (n := 1) (Nat.le_of_ble_eq_true rfl)
  have hen : entryFrame m args 1 = entryFrame m ([.ref (Z.2.2 0 0)] : List Value).toArray 1 := by rw [hargs]
  rw [hen, lg_entry_eq]
  generalize (lg_sl ([.ref (Z.2.2 0 0)]) ++ List.replicate (1 - (lg_sl ([.ref (Z.2.2 0 0)])).length) Slot.unset).toArray = ls at hl ⊢
  have hl : lv_has ls 1 [(0, .ref (Z.2.2 0 0))] := hl
  have hk := hf
  unfold f_X6_works at hk
  refine lv_aload_n hx hb dX6_works_0 rfl (lv_at hl 0 rfl) ?_
  refine gf_RX6_65 hx hb hts hown hK hP (by decide) dX6_works_1 ?_
  cases (show some _ = some _ from hk)
  exact we_i hx hb hr hlocks hP rfl hS dX6_works_4 (by decide) (by decide)
set_option maxHeartbeats 4000000 in
set_option maxRecDepth 100000 in
theorem k_X6_workAt (l : Launch) (hfl : l.stackTraces = false) (Z : ZT) (hZ : wD Z) (X M O : SS) (p0 : Int32) (o : Nat ⊕ String) (hf : f_X6_workAt X p0 = some (o)) (sz : Nat) : vx_Met l yX6_workAt ws_X6_workAt rm_X6_workAt (va_Pc [.ref (Z.2.2 0 0), .int p0] (cP Z (X, M, O) sz)) (cQq Z 12 (X, M, O) o sz) (cX Z (X, M, O) o sz) 1 6 (wA Z sz) := by
  refine vx_ofW (cc := cX6_workAt) (maxL := 2) (ret := (some (.object "Katacode$Work"))) (by decide) rfl ?_
  intro p e s m args below meth c s₁ B hml htab hv
  obtain ⟨hargs, hsz, hE, hP, hK⟩ := hv
  have hx := B.exec
  have hb := B.bytes
  have hr := B.returns
  have hts0 := atoms_spec (ws := ws_X6_workAt) B.pre
  have hts : ∀ w ∈ lw_all, w.before args s = true := fun w h => hts0 w (List.mem_cons_of_mem _ h)
  have hown : s.vm.findClass RX6 = some m.cls := findClass_of_methodNamed B.named
  have hlocks := B.notSynchronized
  have hout9 : ∀ (pc9 : Nat), ∀ x ∈ c.exceptionTable.toList, covers x pc9 = false := fun _ x hx9 => (htab x hx9).elim
  subst hsz
  have hS : va_S (wA Z s.heap.size) s.heap s.heap [] := va_S.rf
  have hl := lv_entry ([.ref (Z.2.2 0 0), .int p0]) (n := 2) (Nat.le_of_ble_eq_true rfl)
  have hen : entryFrame m args 2 = entryFrame m ([.ref (Z.2.2 0 0), .int p0] : List Value).toArray 2 := by rw [hargs]
  rw [hen, lg_entry_eq]
  generalize (lg_sl ([.ref (Z.2.2 0 0), .int p0]) ++ List.replicate (2 - (lg_sl ([.ref (Z.2.2 0 0), .int p0])).length) Slot.unset).toArray = ls at hl ⊢
  have hl : lv_has ls 2 [(0, .ref (Z.2.2 0 0)), (1, .int p0)] := hl
  have hk := hf
  unfold f_X6_workAt at hk
  refine lv_iload_n hx hb dX6_workAt_0 rfl (lv_at hl 1 rfl) ?_
  refine lv_if_lt (tgt := 12) hx hb dX6_workAt_1 (by decide) (fun cz1 => ?_) (fun cz1 => ?_)
  · have hk := it_t cz1 hk
    cases (show some _ = some _ from hk)
    obtain ⟨sa, hstr⟩ := EV.str hE (own := RX6) (k := 413) (tx := "no such work") (by decide +kernel)
    exact vx_throwSW (mc := 1) (ms := 6) (names := ["java/lang/RuntimeException", "java/lang/Exception"]) hx hb hfl hown (by decide +kernel) (by decide +kernel) (hts _ q785) (hts _ q96) hstr (th_408 hE hts) (by decide +kernel) (EV.zu hE) (EV.zn hE) hS (hl.1.trans hml.symm) dX6_workAt_12 dX6_workAt_15 dX6_workAt_16 dX6_workAt_19 dX6_workAt_22 (hout9 _) (Nat.le_of_ble_eq_true rfl) (Nat.le_of_ble_eq_true rfl) (Nat.le_of_ble_eq_true rfl) (Nat.le_of_ble_eq_true rfl) hlocks (fun t9 _ h8 h9 => ⟨(), trivial, ⟨rfl, wP_kept hP h9⟩, fF hS h8 h9⟩) hS.2.2 (by decide) (by decide)
  · have hk := it_f cz1 hk
    refine lv_iload_n hx hb dX6_workAt_4 rfl (lv_at hl 1 rfl) ?_
    refine lv_aload_n hx hb dX6_workAt_5 rfl (lv_at hl 0 rfl) ?_
    refine gf_RX6_65 hx hb hts hown hK hP (by decide) dX6_workAt_6 ?_
    refine lv_icmp_lt (tgt := 23) hx hb dX6_workAt_9 (by decide) (fun cz2 => ?_) (fun cz2 => ?_)
    · have hk := it_t cz2 hk
      refine lv_aload_n hx hb dX6_workAt_23 rfl (lv_at hl 0 rfl) ?_
      refine gf_RX6_37 hx hb hts hown hK hP (by decide) dX6_workAt_24 ?_
      refine lv_iload_n hx hb dX6_workAt_27 rfl (lv_at hl 1 rfl) ?_
      obtain ⟨hg3, hk⟩ := gd_s hk
      refine wa_aaload_23 hx hb hK hP (by decide) hg3 dX6_workAt_28 ?_
      cases (show some _ = some _ from hk)
      exact we_q (kd := 12) (i := (p0).toNatClampNeg) hx hb hr hlocks (Or.inl ⟨_, rfl⟩) hP (vp_lt hg3) rfl hS dX6_workAt_29 (by decide) (by decide)
    · have hk := it_f cz2 hk
      cases (show some _ = some _ from hk)
      obtain ⟨sa, hstr⟩ := EV.str hE (own := RX6) (k := 413) (tx := "no such work") (by decide +kernel)
      exact vx_throwSW (mc := 1) (ms := 6) (names := ["java/lang/RuntimeException", "java/lang/Exception"]) hx hb hfl hown (by decide +kernel) (by decide +kernel) (hts _ q785) (hts _ q96) hstr (th_408 hE hts) (by decide +kernel) (EV.zu hE) (EV.zn hE) hS (hl.1.trans hml.symm) dX6_workAt_12 dX6_workAt_15 dX6_workAt_16 dX6_workAt_19 dX6_workAt_22 (hout9 _) (Nat.le_of_ble_eq_true rfl) (Nat.le_of_ble_eq_true rfl) (Nat.le_of_ble_eq_true rfl) (Nat.le_of_ble_eq_true rfl) hlocks (fun t9 _ h8 h9 => ⟨(), trivial, ⟨rfl, wP_kept hP h9⟩, fF hS h8 h9⟩) hS.2.2 (by decide) (by decide)
set_option maxHeartbeats 4000000 in
set_option maxRecDepth 100000 in
theorem k_X6_of (l : Launch) (hfl : l.stackTraces = false) (Z : ZT) (hZ : wD Z) (X M O : SS) (p0 : Int32) (p1 : Int32) (o : Int32 ⊕ String) (hf : f_X6_of X p0 p1 = some (o)) (sz : Nat) : vx_Met l yX6_of ws_X6_of rm_X6_of (va_Pc [.ref (Z.2.2 0 0), .int p0, .int p1] (cP Z (X, M, O) sz)) (cQi Z (X, M, O) o sz) (cX Z (X, M, O) o sz) 2 12 (wA Z sz) := by
  refine vx_ofW (cc := cX6_of) (maxL := 4) (ret := (some .int)) (by decide) rfl ?_
  intro p e s m args below meth c s₁ B hml htab hv
  obtain ⟨hargs, hsz, hE, hP, hK⟩ := hv
  have hx := B.exec
  have hb := B.bytes
  have hr := B.returns
  have hts0 := atoms_spec (ws := ws_X6_of) B.pre
  have hts : ∀ w ∈ lw_all, w.before args s = true := fun w h => hts0 w (List.mem_cons_of_mem _ h)
  have hown : s.vm.findClass RX6 = some m.cls := findClass_of_methodNamed B.named
  have hlocks := B.notSynchronized
  have hout9 : ∀ (pc9 : Nat), ∀ x ∈ c.exceptionTable.toList, covers x pc9 = false := fun _ x hx9 => (htab x hx9).elim
  subst hsz
  have hS : va_S (wA Z s.heap.size) s.heap s.heap [] := va_S.rf
  have hl := lv_entry ([.ref (Z.2.2 0 0), .int p0, .int p1]) (n := 4) (Nat.le_of_ble_eq_true rfl)
  have hen : entryFrame m args 4 = entryFrame m ([.ref (Z.2.2 0 0), .int p0, .int p1] : List Value).toArray 4 := by rw [hargs]
  rw [hen, lg_entry_eq]
  generalize (lg_sl ([.ref (Z.2.2 0 0), .int p0, .int p1]) ++ List.replicate (4 - (lg_sl ([.ref (Z.2.2 0 0), .int p0, .int p1])).length) Slot.unset).toArray = ls at hl ⊢
  have hl : lv_has ls 4 [(0, .ref (Z.2.2 0 0)), (1, .int p0), (2, .int p1)] := hl
  have hk := hf
  unfold f_X6_of at hk
  refine lv_aload_n hx hb dX6_of_0 rfl (lv_at hl 0 rfl) ?_
  refine lv_iload_n hx hb dX6_of_1 rfl (lv_at hl 1 rfl) ?_
  obtain ⟨o3, hf2, hn5, he6⟩ := e0_s hk
  refine wc_qV (kd := 12) (rest := []) (As := [.int p0]) ⟨hx, hb, hml, hown, hts⟩ (fun sz => k_X6_workAt l hfl Z hZ X M O p0 o3 hf2 sz) (cw_RX6_219 (args := args) (s := s) hts (Nat.le_of_ble_eq_true rfl) (Nat.le_of_ble_eq_true rfl)) hE hP hK hS (rv_0 hK hP (by decide)) rfl hl.1 rfl (Nat.le_of_ble_eq_true rfl) dX6_of_2 ⟨Nat.le_of_ble_eq_true rfl, Nat.le_of_ble_eq_true rfl⟩ (fun E4 ce9 q9 H locs hoE hP hS hc9 hv9 hcl9 => ?_) (fun i1 hi1 H locs ho hP hS => ?_)
  · have hk := he6 _ hoE
    cases (show some _ = some _ from hk)
    exact vx_out (hout9 _) hlocks hc9 hv9 hcl9 (fun t8 ht8 hA8 => ⟨(), trivial, ⟨rfl, wP_eq ht8 hP⟩, hS.F ht8⟩) hS.2.2 (by decide) (by decide)
  have hk := hn5 _ ho
  refine lv_astore_n (lv' := [(3, .ref (Z.2.2 12 i1)), (0, .ref (Z.2.2 0 0)), (1, .int p0), (2, .int p1)]) hx hb dX6_of_5 rfl hl (by decide) rfl (fun ls hl => ?_)
  refine lv_iload_n hx hb dX6_of_6 rfl (lv_at hl 3 rfl) ?_
  by_cases cz8 : p1 = (107 : Int32)
  · have hk := it_t cz8 hk
    refine lv_tableIn (off := 70) (tgt := 77) hx hb dX6_of_7 (by rw [cz8]; decide) (by rw [cz8]; decide) (by rw [cz8]; rfl) (by decide) ?_
    refine lv_aload_n hx hb dX6_of_77 rfl (lv_at hl 0 rfl) ?_
    refine gf_RX6_226 hx hb hts hown hK hP hi1 dX6_of_78 ?_
    cases (show some _ = some _ from hk)
    exact we_i hx hb hr hlocks hP rfl hS dX6_of_81 (by decide) (by decide)
  have hk := it_f cz8 hk
  by_cases cz9 : p1 = (109 : Int32)
  · have hk := it_t cz9 hk
    refine lv_tableIn (off := 65) (tgt := 72) hx hb dX6_of_7 (by rw [cz9]; decide) (by rw [cz9]; decide) (by rw [cz9]; rfl) (by decide) ?_
    refine lv_aload_n hx hb dX6_of_72 rfl (lv_at hl 0 rfl) ?_
    refine gf_RX6_223 hx hb hts hown hK hP hi1 dX6_of_73 ?_
    cases (show some _ = some _ from hk)
    exact we_i hx hb hr hlocks hP rfl hS dX6_of_76 (by decide) (by decide)
  have hk := it_f cz9 hk
  by_cases cz10 : p1 = (110 : Int32)
  · have hk := it_t cz10 hk
    refine lv_tableIn (off := 75) (tgt := 82) hx hb dX6_of_7 (by rw [cz10]; decide) (by rw [cz10]; decide) (by rw [cz10]; rfl) (by decide) ?_
    refine lv_aload_n hx hb dX6_of_82 rfl (lv_at hl 0 rfl) ?_
    refine gf_RX6_229 hx hb hts hown hK hP hi1 dX6_of_83 ?_
    cases (show some _ = some _ from hk)
    exact we_i hx hb hr hlocks hP rfl hS dX6_of_86 (by decide) (by decide)
  have hk := it_f cz10 hk
  by_cases cz11 : p1 = (118 : Int32)
  · have hk := it_t cz11 hk
    refine lv_tableIn (off := 80) (tgt := 87) hx hb dX6_of_7 (by rw [cz11]; decide) (by rw [cz11]; decide) (by rw [cz11]; rfl) (by decide) ?_
    refine lv_aload_n hx hb dX6_of_87 rfl (lv_at hl 0 rfl) ?_
    refine gf_RX6_230 hx hb hts hown hK hP hi1 dX6_of_88 ?_
    cases (show some _ = some _ from hk)
    exact we_i hx hb hr hlocks hP rfl hS dX6_of_91 (by decide) (by decide)
  have hk := it_f cz11 hk
  by_cases cz12 : p1 = (119 : Int32)
  · have hk := it_t cz12 hk
    refine lv_tableIn (off := 85) (tgt := 92) hx hb dX6_of_7 (by rw [cz12]; decide) (by rw [cz12]; decide) (by rw [cz12]; rfl) (by decide) ?_
    refine lv_aload_n hx hb dX6_of_92 rfl (lv_at hl 0 rfl) ?_
    refine gf_RX6_233 hx hb hts hown hK hP hi1 dX6_of_93 ?_
    cases (show some _ = some _ from hk)
    exact we_i hx hb hr hlocks hP rfl hS dX6_of_96 (by decide) (by decide)
  have hk := it_f cz12 hk
  refine sw_out (lo := 107) (hi := 119) (d := 90) (tgt := 97) (x := p1) hx hb dX6_of_7 (by decide) (fun j h1 h2 h3 => ?_) ?_
  · rcases (show j = 107 ∨ j = 108 ∨ j = 109 ∨ j = 110 ∨ j = 111 ∨ j = 112 ∨ j = 113 ∨ j = 114 ∨ j = 115 ∨ j = 116 ∨ j = 117 ∨ j = 118 ∨ j = 119 by omega) with rfl | rfl | rfl | rfl | rfl | rfl | rfl | rfl | rfl | rfl | rfl | rfl | rfl
    · exact absurd h3 cz8
    · rfl
    · exact absurd h3 cz9
    · exact absurd h3 cz10
    · rfl
    · rfl
    · rfl
    · rfl
    · rfl
    · rfl
    · rfl
    · exact absurd h3 cz11
    · exact absurd h3 cz12
  cases (show some _ = some _ from hk)
  obtain ⟨sa, hstr⟩ := EV.str hE (own := RX6) (k := 236) (tx := "no such thing") (by decide +kernel)
  exact vx_throwS (mc := 2) (ms := 12) (names := ["java/lang/RuntimeException", "java/lang/Exception"]) hx hb hfl hown (by decide +kernel) (by decide +kernel) (hts _ q629) (hts _ q94) hstr (th_96 hE hts) (by decide +kernel) (EV.zu hE) (EV.zn hE) hS (hl.1.trans hml.symm) dX6_of_97 dX6_of_100 dX6_of_101 dX6_of_103 dX6_of_106 (hout9 _) (Nat.le_of_ble_eq_true rfl) (Nat.le_of_ble_eq_true rfl) (Nat.le_of_ble_eq_true rfl) (Nat.le_of_ble_eq_true rfl) hlocks (fun t9 _ h8 h9 => ⟨(), trivial, ⟨rfl, wP_kept hP h9⟩, fF hS h8 h9⟩) hS.2.2 (by decide) (by decide)
set_option maxHeartbeats 4000000 in
set_option maxRecDepth 100000 in
theorem k_X6_state (l : Launch) (hfl : l.stackTraces = false) (Z : ZT) (hZ : wD Z) (X M O : SS) (p0 : Int32) (o : Int32 ⊕ String) (hf : f_X6_state X p0 = some (o)) (sz : Nat) : vx_Met l yX6_state ws_X6_state rm_X6_state (va_Pc [.ref (Z.2.2 0 0), .int p0] (cP Z (X, M, O) sz)) (cQi Z (X, M, O) o sz) (cX Z (X, M, O) o sz) 1 6 (wA Z sz) := by
  refine vx_ofW (cc := cX6_state) (maxL := 2) (ret := (some .char)) (by decide) rfl ?_
  intro p e s m args below meth c s₁ B hml htab hv
  obtain ⟨hargs, hsz, hE, hP, hK⟩ := hv
  have hx := B.exec
  have hb := B.bytes
  have hr := B.returns
  have hts0 := atoms_spec (ws := ws_X6_state) B.pre
  have hts : ∀ w ∈ lw_all, w.before args s = true := fun w h => hts0 w (List.mem_cons_of_mem _ h)
  have hown : s.vm.findClass RX6 = some m.cls := findClass_of_methodNamed B.named
  have hlocks := B.notSynchronized
  have hout9 : ∀ (pc9 : Nat), ∀ x ∈ c.exceptionTable.toList, covers x pc9 = false := fun _ x hx9 => (htab x hx9).elim
  subst hsz
  have hS : va_S (wA Z s.heap.size) s.heap s.heap [] := va_S.rf
  have hl := lv_entry ([.ref (Z.2.2 0 0), .int p0]) (n := 2) (Nat.le_of_ble_eq_true rfl)
  have hen : entryFrame m args 2 = entryFrame m ([.ref (Z.2.2 0 0), .int p0] : List Value).toArray 2 := by rw [hargs]
  rw [hen, lg_entry_eq]
  generalize (lg_sl ([.ref (Z.2.2 0 0), .int p0]) ++ List.replicate (2 - (lg_sl ([.ref (Z.2.2 0 0), .int p0])).length) Slot.unset).toArray = ls at hl ⊢
  have hl : lv_has ls 2 [(0, .ref (Z.2.2 0 0)), (1, .int p0)] := hl
  have hk := hf
  unfold f_X6_state at hk
  refine lv_aload_n hx hb dX6_state_0 rfl (lv_at hl 0 rfl) ?_
  refine lv_iload_n hx hb dX6_state_1 rfl (lv_at hl 1 rfl) ?_
  obtain ⟨o3, hf2, hn5, he6⟩ := e0_s hk
  refine wc_qV (kd := 12) (rest := []) (As := [.int p0]) ⟨hx, hb, hml, hown, hts⟩ (fun sz => k_X6_workAt l hfl Z hZ X M O p0 o3 hf2 sz) (cw_RX6_219 (args := args) (s := s) hts (Nat.le_of_ble_eq_true rfl) (Nat.le_of_ble_eq_true rfl)) hE hP hK hS (rv_0 hK hP (by decide)) rfl hl.1 rfl (Nat.le_of_ble_eq_true rfl) dX6_state_2 ⟨Nat.le_of_ble_eq_true rfl, Nat.le_of_ble_eq_true rfl⟩ (fun E4 ce9 q9 H locs hoE hP hS hc9 hv9 hcl9 => ?_) (fun i1 hi1 H locs ho hP hS => ?_)
  · have hk := he6 _ hoE
    cases (show some _ = some _ from hk)
    exact vx_out (hout9 _) hlocks hc9 hv9 hcl9 (fun t8 ht8 hA8 => ⟨(), trivial, ⟨rfl, wP_eq ht8 hP⟩, hS.F ht8⟩) hS.2.2 (by decide) (by decide)
  have hk := hn5 _ ho
  refine gf_RX6_238 hx hb hts hown hK hP hi1 dX6_state_5 ?_
  obtain ⟨hg7, hk⟩ := gd_s hk
  cases (show some _ = some _ from hk)
  exact we_z hx hb hr hlocks hg7.1 hP rfl hS dX6_state_8 (by decide) (by decide)
set_option maxHeartbeats 4000000 in
set_option maxRecDepth 100000 in
theorem k_X6_sum (l : Launch) (hfl : l.stackTraces = false) (Z : ZT) (hZ : wD Z) (X M O : SS) (p0 : Int32) (o : Int64 ⊕ String) (hf : f_X6_sum X p0 = some (o)) (sz : Nat) : vx_Met l yX6_sum ws_X6_sum rm_X6_sum (va_Pc [.ref (Z.2.2 0 0), .int p0] (cP Z (X, M, O) sz)) (cQl Z (X, M, O) o sz) (cX Z (X, M, O) o sz) 1 6 (wA Z sz) := by
  refine vx_ofW (cc := cX6_sum) (maxL := 2) (ret := (some .long)) (by decide) rfl ?_
  intro p e s m args below meth c s₁ B hml htab hv
  obtain ⟨hargs, hsz, hE, hP, hK⟩ := hv
  have hx := B.exec
  have hb := B.bytes
  have hr := B.returns
  have hts0 := atoms_spec (ws := ws_X6_sum) B.pre
  have hts : ∀ w ∈ lw_all, w.before args s = true := fun w h => hts0 w (List.mem_cons_of_mem _ h)
  have hown : s.vm.findClass RX6 = some m.cls := findClass_of_methodNamed B.named
  have hlocks := B.notSynchronized
  have hout9 : ∀ (pc9 : Nat), ∀ x ∈ c.exceptionTable.toList, covers x pc9 = false := fun _ x hx9 => (htab x hx9).elim
  subst hsz
  have hS : va_S (wA Z s.heap.size) s.heap s.heap [] := va_S.rf
  have hl := lv_entry ([.ref (Z.2.2 0 0), .int p0]) (n := 2) (Nat.le_of_ble_eq_true rfl)
  have hen : entryFrame m args 2 = entryFrame m ([.ref (Z.2.2 0 0), .int p0] : List Value).toArray 2 := by rw [hargs]
  rw [hen, lg_entry_eq]
  generalize (lg_sl ([.ref (Z.2.2 0 0), .int p0]) ++ List.replicate (2 - (lg_sl ([.ref (Z.2.2 0 0), .int p0])).length) Slot.unset).toArray = ls at hl ⊢
  have hl : lv_has ls 2 [(0, .ref (Z.2.2 0 0)), (1, .int p0)] := hl
  have hk := hf
  unfold f_X6_sum at hk
  refine lv_aload_n hx hb dX6_sum_0 rfl (lv_at hl 0 rfl) ?_
  refine lv_iload_n hx hb dX6_sum_1 rfl (lv_at hl 1 rfl) ?_
  obtain ⟨o3, hf2, hn5, he6⟩ := e0_s hk
  refine wc_qV (kd := 12) (rest := []) (As := [.int p0]) ⟨hx, hb, hml, hown, hts⟩ (fun sz => k_X6_workAt l hfl Z hZ X M O p0 o3 hf2 sz) (cw_RX6_219 (args := args) (s := s) hts (Nat.le_of_ble_eq_true rfl) (Nat.le_of_ble_eq_true rfl)) hE hP hK hS (rv_0 hK hP (by decide)) rfl hl.1 rfl (Nat.le_of_ble_eq_true rfl) dX6_sum_2 ⟨Nat.le_of_ble_eq_true rfl, Nat.le_of_ble_eq_true rfl⟩ (fun E4 ce9 q9 H locs hoE hP hS hc9 hv9 hcl9 => ?_) (fun i1 hi1 H locs ho hP hS => ?_)
  · have hk := he6 _ hoE
    cases (show some _ = some _ from hk)
    exact vx_out (hout9 _) hlocks hc9 hv9 hcl9 (fun t8 ht8 hA8 => ⟨(), trivial, ⟨rfl, wP_eq ht8 hP⟩, hS.F ht8⟩) hS.2.2 (by decide) (by decide)
  have hk := hn5 _ ho
  refine gf_RX6_242 hx hb hts hown hK hP hi1 dX6_sum_5 ?_
  cases (show some _ = some _ from hk)
  exact we_l hx hb hr hlocks hP rfl hS dX6_sum_8 (by decide) (by decide)
set_option maxHeartbeats 4000000 in
set_option maxRecDepth 100000 in
theorem k_X6_stepsDoneBy (l : Launch) (hfl : l.stackTraces = false) (Z : ZT) (hZ : wD Z) (X M O : SS) (i1 : Nat) (i2 : Nat) (hi1 : i1 < 71) (hi2 : i2 < 41) (Xz : SS) (r : Int32) (hf : f_X6_stepsDoneBy X i1 i2 = some (Xz, r)) (sz : Nat) : vx_Met l yX6_stepsDoneBy ws_X6_stepsDoneBy rm_X6_stepsDoneBy (va_Pc [.ref (Z.2.2 0 0), .ref (Z.2.2 1 i1), .ref (Z.2.2 4 i2)] (cP Z (X, M, O) sz)) (cQi Z (Xz, M, O) (.inl r) sz) (cX Z (Xz, M, O) (.inl r : Int32 ⊕ String) sz) 0 0 (wA Z sz) := by
  refine vx_ofW (cc := cX6_stepsDoneBy) (maxL := 3) (ret := (some .int)) (by decide) rfl ?_
  intro p e s m args below meth c s₁ B hml htab hv
  obtain ⟨hargs, hsz, hE, hP, hK⟩ := hv
  have hx := B.exec
  have hb := B.bytes
  have hr := B.returns
  have hts0 := atoms_spec (ws := ws_X6_stepsDoneBy) B.pre
  have hts : ∀ w ∈ lw_all, w.before args s = true := fun w h => hts0 w (List.mem_cons_of_mem _ h)
  have hown : s.vm.findClass RX6 = some m.cls := findClass_of_methodNamed B.named
  have hlocks := B.notSynchronized
  have hout9 : ∀ (pc9 : Nat), ∀ x ∈ c.exceptionTable.toList, covers x pc9 = false := fun _ x hx9 => (htab x hx9).elim
  subst hsz
  have hS : va_S (wA Z s.heap.size) s.heap s.heap [] := va_S.rf
  have hl := lv_entry ([.ref (Z.2.2 0 0), .ref (Z.2.2 1 i1), .ref (Z.2.2 4 i2)]) (n := 3) (Nat.le_of_ble_eq_true rfl)
  have hen : entryFrame m args 3 = entryFrame m ([.ref (Z.2.2 0 0), .ref (Z.2.2 1 i1), .ref (Z.2.2 4 i2)] : List Value).toArray 3 := by rw [hargs]
  rw [hen, lg_entry_eq]
  generalize (lg_sl ([.ref (Z.2.2 0 0), .ref (Z.2.2 1 i1), .ref (Z.2.2 4 i2)]) ++ List.replicate (3 - (lg_sl ([.ref (Z.2.2 0 0), .ref (Z.2.2 1 i1), .ref (Z.2.2 4 i2)])).length) Slot.unset).toArray = ls at hl ⊢
  have hl : lv_has ls 3 [(0, .ref (Z.2.2 0 0)), (1, .ref (Z.2.2 1 i1)), (2, .ref (Z.2.2 4 i2))] := hl
  have hk := hf
  unfold f_X6_stepsDoneBy at hk
  refine lv_aload_n hx hb dX6_stepsDoneBy_0 rfl (lv_at hl 0 rfl) ?_
  refine gf_RX6_55 hx hb hts hown hK hP (by decide) dX6_stepsDoneBy_1 ?_
  refine lv_aload_n hx hb dX6_stepsDoneBy_4 rfl (lv_at hl 1 rfl) ?_
  refine lv_aload_n hx hb dX6_stepsDoneBy_5 rfl (lv_at hl 2 rfl) ?_
  obtain ⟨X2, v1, hf3, hk⟩ := b1_s hk
  refine wc_iV0 (rest := []) (As := [.ref (Z.2.2 1 i1), .ref (Z.2.2 4 i2)]) ⟨hx, hb, hml, hown, hts⟩ (fun sz => k_X1_execute l hfl Z hZ X M O 1 i1 i2 (by decide) hi1 hi2 X2 v1 hf3 sz) (cw_RX6_172 (args := args) (s := s) hts (Nat.le_of_ble_eq_true rfl) (Nat.le_of_ble_eq_true rfl)) hE hP hK hS (rv_16 hK hP (by decide)) rfl hl.1 rfl (Nat.le_of_ble_eq_true rfl) dX6_stepsDoneBy_6 ⟨Nat.le_of_ble_eq_true rfl, Nat.le_of_ble_eq_true rfl⟩ (fun H locs hP hS => ?_)
  refine lv_pop hx hb dX6_stepsDoneBy_9 rfl ?_
  refine lv_aload_n hx hb dX6_stepsDoneBy_10 rfl (lv_at hl 0 rfl) ?_
  refine gf_RX6_55 hx hb hts hown hK hP (by decide) dX6_stepsDoneBy_11 ?_
  refine gf_RX6_180 hx hb hts hown hK hP (by decide) dX6_stepsDoneBy_14 ?_
  cases (show some _ = some _ from hk)
  exact we_i hx hb hr hlocks hP rfl hS dX6_stepsDoneBy_17 (by decide) (by decide)
set_option maxHeartbeats 4000000 in
set_option maxRecDepth 100000 in
theorem k_X6_stepsTold (l : Launch) (hfl : l.stackTraces = false) (Z : ZT) (hZ : wD Z) (X M O : SS) (i1 : Nat) (p1 : Int32) (hi1 : i1 < 40) (Xz : SS) (r : Int32) (hf : f_X6_stepsTold X i1 p1 = some (Xz, r)) (sz : Nat) : vx_Met l yX6_stepsTold ws_X6_stepsTold rm_X6_stepsTold (va_Pc [.ref (Z.2.2 0 0), .ref (Z.2.2 12 i1), .int p1] (cP Z (X, M, O) sz)) (cQi Z (Xz, M, O) (.inl r) sz) (cX Z (Xz, M, O) (.inl r : Int32 ⊕ String) sz) 0 0 (wA Z sz) := by
  refine vx_ofW (cc := cX6_stepsTold) (maxL := 3) (ret := (some .int)) (by decide) rfl ?_
  intro p e s m args below meth c s₁ B hml htab hv
  obtain ⟨hargs, hsz, hE, hP, hK⟩ := hv
  have hx := B.exec
  have hb := B.bytes
  have hr := B.returns
  have hts0 := atoms_spec (ws := ws_X6_stepsTold) B.pre
  have hts : ∀ w ∈ lw_all, w.before args s = true := fun w h => hts0 w (List.mem_cons_of_mem _ h)
  have hown : s.vm.findClass RX6 = some m.cls := findClass_of_methodNamed B.named
  have hlocks := B.notSynchronized
  have hout9 : ∀ (pc9 : Nat), ∀ x ∈ c.exceptionTable.toList, covers x pc9 = false := fun _ x hx9 => (htab x hx9).elim
  subst hsz
  have hS : va_S (wA Z s.heap.size) s.heap s.heap [] := va_S.rf
  have hl := lv_entry ([.ref (Z.2.2 0 0), .ref (Z.2.2 12 i1), .int p1]) (n := 3) (Nat.le_of_ble_eq_true rfl)
  have hen : entryFrame m args 3 = entryFrame m ([.ref (Z.2.2 0 0), .ref (Z.2.2 12 i1), .int p1] : List Value).toArray 3 := by rw [hargs]
  rw [hen, lg_entry_eq]
  generalize (lg_sl ([.ref (Z.2.2 0 0), .ref (Z.2.2 12 i1), .int p1]) ++ List.replicate (3 - (lg_sl ([.ref (Z.2.2 0 0), .ref (Z.2.2 12 i1), .int p1])).length) Slot.unset).toArray = ls at hl ⊢
  have hl : lv_has ls 3 [(0, .ref (Z.2.2 0 0)), (1, .ref (Z.2.2 12 i1)), (2, .int p1)] := hl
  have hk := hf
  unfold f_X6_stepsTold at hk
  refine lv_aload_n hx hb dX6_stepsTold_0 rfl (lv_at hl 1 rfl) ?_
  refine gf_RX6_252 hx hb hts hown hK hP hi1 dX6_stepsTold_1 ?_
  refine lv_if_eq (tgt := 30) hx hb dX6_stepsTold_4 (by decide) (fun cz1 => ?_) (fun cz1 => ?_)
  · have hk := it_t cz1 hk
    refine lv_iload_n hx hb dX6_stepsTold_30 rfl (lv_at hl 2 rfl) ?_
    refine lv_aload_n hx hb dX6_stepsTold_31 rfl (lv_at hl 1 rfl) ?_
    refine gf_RX6_432 hx hb hts hown hK hP hi1 dX6_stepsTold_32 ?_
    refine lv_icmp_ge (tgt := 47) hx hb dX6_stepsTold_35 (by decide) (fun cz2 => ?_) (fun cz2 => ?_)
    · have hk := it_t cz2 hk
      refine lv_iconst (v := ((-1) : Int32)) hx hb dX6_stepsTold_47 (by decide) ?_
      cases (show some _ = some _ from hk)
      exact we_i hx hb hr hlocks hP rfl hS dX6_stepsTold_48 (by decide) (by decide)
    · have hk := it_f cz2 hk
      refine lv_aload_n hx hb dX6_stepsTold_38 rfl (lv_at hl 1 rfl) ?_
      refine gf_RX6_435 hx hb hts hown hK hP hi1 dX6_stepsTold_39 ?_
      refine lv_iload_n hx hb dX6_stepsTold_42 rfl (lv_at hl 2 rfl) ?_
      obtain ⟨hg3, hk⟩ := gd_s hk
      refine wa_iaload_13 hx hb hK hP hi1 hg3 dX6_stepsTold_43 ?_
      refine lv_goto (tgt := 48) hx hb dX6_stepsTold_44 (by decide) ?_
      cases (show some _ = some _ from hk)
      exact we_i hx hb hr hlocks hP rfl hS dX6_stepsTold_48 (by decide) (by decide)
  · have hk := it_f cz1 hk
    refine lv_aload_n hx hb dX6_stepsTold_7 rfl (lv_at hl 0 rfl) ?_
    refine lv_aload_n hx hb dX6_stepsTold_8 rfl (lv_at hl 1 rfl) ?_
    refine gf_RX6_255 hx hb hts hown hK hP hi1 dX6_stepsTold_9 ?_
    refine lv_aload_n hx hb dX6_stepsTold_12 rfl (lv_at hl 0 rfl) ?_
    refine gf_RX6_25 hx hb hts hown hK hP (by decide) dX6_stepsTold_13 ?_
    refine lv_aload_n hx hb dX6_stepsTold_16 rfl (lv_at hl 1 rfl) ?_
    refine gf_RX6_226 hx hb hts hown hK hP hi1 dX6_stepsTold_17 ?_
    obtain ⟨hg4, hk⟩ := gd_s hk
    refine wa_aaload_21 hx hb hK hP (by decide) hg4 dX6_stepsTold_20 ?_
    refine gf_RX6_151 hx hb hts hown hK hP (vp_lt hg4) dX6_stepsTold_21 ?_
    refine lv_iload_n hx hb dX6_stepsTold_24 rfl (lv_at hl 2 rfl) ?_
    obtain ⟨hg5, hk⟩ := gd_s hk
    refine wa_aaload_8 hx hb hK hP (vp_lt hg4) hg5 dX6_stepsTold_25 ?_
    obtain ⟨X7, v6, hf8, hk⟩ := b1_s hk
    refine wc_iV0 (rest := []) (As := [.ref (Z.2.2 1 (i1 + 1)), .ref (Z.2.2 4 (5 * ((X.1 12 i1 8)).toNatClampNeg + (p1).toNatClampNeg))]) ⟨hx, hb, hml, hown, hts⟩ (fun sz => k_X6_stepsDoneBy l hfl Z hZ X M O (i1 + 1) (5 * ((X.1 12 i1 8)).toNatClampNeg + (p1).toNatClampNeg) (lt_B hi1) (lt_T (vp_lt hg4) (vp_lt hg5)) X7 v6 hf8 sz) (cw_RX6_428 (args := args) (s := s) hts (Nat.le_of_ble_eq_true rfl) (Nat.le_of_ble_eq_true rfl)) hE hP hK hS (rv_0 hK hP (by decide)) rfl hl.1 rfl (Nat.le_of_ble_eq_true rfl) dX6_stepsTold_26 ⟨Nat.le_of_ble_eq_true rfl, Nat.le_of_ble_eq_true rfl⟩ (fun H locs hP hS => ?_)
    cases (show some _ = some _ from hk)
    exact we_i hx hb hr hlocks hP rfl hS dX6_stepsTold_29 (by decide) (by decide)
set_option maxHeartbeats 4000000 in
set_option maxRecDepth 100000 in
theorem k_X6_steps (l : Launch) (hfl : l.stackTraces = false) (Z : ZT) (hZ : wD Z) (X M O : SS) (p0 : Int32) (p1 : Int32) (Xz : SS) (o : Int32 ⊕ String) (hf : f_X6_steps X p0 p1 = some (Xz, o)) (sz : Nat) : vx_Met l yX6_steps ws_X6_steps rm_X6_steps (va_Pc [.ref (Z.2.2 0 0), .int p0, .int p1] (cP Z (X, M, O) sz)) (cQi Z (Xz, M, O) o sz) (cX Z (Xz, M, O) o sz) 3 18 (wA Z sz) := by
  refine vx_ofW (cc := cX6_steps) (maxL := 5) (ret := (some .int)) (by decide) rfl ?_
  intro p e s m args below meth c s₁ B hml htab hv
  obtain ⟨hargs, hsz, hE, hP, hK⟩ := hv
  have hx := B.exec
  have hb := B.bytes
  have hr := B.returns
  have hts0 := atoms_spec (ws := ws_X6_steps) B.pre
  have hts : ∀ w ∈ lw_all, w.before args s = true := fun w h => hts0 w (List.mem_cons_of_mem _ h)
  have hown : s.vm.findClass RX6 = some m.cls := findClass_of_methodNamed B.named
  have hlocks := B.notSynchronized
  have hout9 : ∀ (pc9 : Nat), ∀ x ∈ c.exceptionTable.toList, covers x pc9 = false := fun _ x hx9 => (htab x hx9).elim
  subst hsz
  have hS : va_S (wA Z s.heap.size) s.heap s.heap [] := va_S.rf
  have hl := lv_entry ([.ref (Z.2.2 0 0), .int p0, .int p1]) (n := 5) (Nat.le_of_ble_eq_true rfl)
  have hen : entryFrame m args 5 = entryFrame m ([.ref (Z.2.2 0 0), .int p0, .int p1] : List Value).toArray 5 := by rw [hargs]
  rw [hen, lg_entry_eq]
  generalize (lg_sl ([.ref (Z.2.2 0 0), .int p0, .int p1]) ++ List.replicate (5 - (lg_sl ([.ref (Z.2.2 0 0), .int p0, .int p1])).length) Slot.unset).toArray = ls at hl ⊢
  have hl : lv_has ls 5 [(0, .ref (Z.2.2 0 0)), (1, .int p0), (2, .int p1)] := hl
  have hk := hf
  unfold f_X6_steps at hk
  refine lv_aload_n hx hb dX6_steps_0 rfl (lv_at hl 0 rfl) ?_
  refine lv_iload_n hx hb dX6_steps_1 rfl (lv_at hl 1 rfl) ?_
  obtain ⟨o3, hf2, hn5, he6⟩ := e0_s hk
  refine wc_qV (kd := 12) (rest := []) (As := [.int p0]) ⟨hx, hb, hml, hown, hts⟩ (fun sz => k_X6_workAt l hfl Z hZ X M O p0 o3 hf2 sz) (cw_RX6_219 (args := args) (s := s) hts (Nat.le_of_ble_eq_true rfl) (Nat.le_of_ble_eq_true rfl)) hE hP hK hS (rv_0 hK hP (by decide)) rfl hl.1 rfl (Nat.le_of_ble_eq_true rfl) dX6_steps_2 ⟨Nat.le_of_ble_eq_true rfl, Nat.le_of_ble_eq_true rfl⟩ (fun E4 ce9 q9 H locs hoE hP hS hc9 hv9 hcl9 => ?_) (fun i1 hi1 H locs ho hP hS => ?_)
  · have hk := he6 _ hoE
    cases (show some _ = some _ from hk)
    exact vx_out (hout9 _) hlocks hc9 hv9 hcl9 (fun t8 ht8 hA8 => ⟨(), trivial, ⟨rfl, wP_eq ht8 hP⟩, hS.F ht8⟩) hS.2.2 (by decide) (by decide)
  have hk := hn5 _ ho
  refine lv_astore_n (lv' := [(3, .ref (Z.2.2 12 i1)), (0, .ref (Z.2.2 0 0)), (1, .int p0), (2, .int p1)]) hx hb dX6_steps_5 rfl hl (by decide) rfl (fun ls hl => ?_)
  refine lv_aload_n hx hb dX6_steps_6 rfl (lv_at hl 1 rfl) ?_
  refine lv_aload_n hx hb dX6_steps_7 rfl (lv_at hl 1 rfl) ?_
  refine gf_RX6_25 hx hb hts hown hK hP (by decide) dX6_steps_8 ?_
  refine lv_aload_n hx hb dX6_steps_11 rfl (lv_at hl 0 rfl) ?_
  refine gf_RX6_226 hx hb hts hown hK hP hi1 dX6_steps_12 ?_
  obtain ⟨hg7, hk⟩ := gd_s hk
  refine wa_aaload_21 hx hb hK hP (by decide) hg7 dX6_steps_15 ?_
  refine lv_iload_n hx hb dX6_steps_16 rfl (lv_at hl 3 rfl) ?_
  obtain ⟨o10, hf9, hn12, he13⟩ := e0_s hk
  refine wc_qV (kd := 4) (rest := []) (As := [.ref (Z.2.2 7 ((X.1 12 i1 8)).toNatClampNeg), .int p1]) ⟨hx, hb, hml, hown, hts⟩ (fun sz => k_X6_testAt l hfl Z hZ X M O ((X.1 12 i1 8)).toNatClampNeg p1 (vp_lt hg7) o10 hf9 sz) (cw_RX6_159 (args := args) (s := s) hts (Nat.le_of_ble_eq_true rfl) (Nat.le_of_ble_eq_true rfl)) hE hP hK hS (rv_0 hK hP (by decide)) rfl hl.1 rfl (Nat.le_of_ble_eq_true rfl) dX6_steps_17 ⟨Nat.le_of_ble_eq_true rfl, Nat.le_of_ble_eq_true rfl⟩ (fun E11 ce9 q9 H locs hoE hP hS hc9 hv9 hcl9 => ?_) (fun i8 hi8 H locs ho hP hS => ?_)
  · have hk := he13 _ hoE
    cases (show some _ = some _ from hk)
    exact vx_out (hout9 _) hlocks hc9 hv9 hcl9 (fun t8 ht8 hA8 => ⟨(), trivial, ⟨rfl, wP_eq ht8 hP⟩, hS.F ht8⟩) hS.2.2 (by decide) (by decide)
  have hk := hn12 _ ho
  refine lv_pop hx hb dX6_steps_20 rfl ?_
  refine lv_aload_n hx hb dX6_steps_21 rfl (lv_at hl 1 rfl) ?_
  refine lv_aload_n hx hb dX6_steps_22 rfl (lv_at hl 0 rfl) ?_
  refine lv_iload_n hx hb dX6_steps_23 rfl (lv_at hl 3 rfl) ?_
  obtain ⟨X15, v14, hf16, hk⟩ := b1_s hk
  refine wc_iV0 (rest := []) (As := [.ref (Z.2.2 12 i1), .int p1]) ⟨hx, hb, hml, hown, hts⟩ (fun sz => k_X6_stepsTold l hfl Z hZ X M O i1 p1 hi1 X15 v14 hf16 sz) (cw_RX6_246 (args := args) (s := s) hts (Nat.le_of_ble_eq_true rfl) (Nat.le_of_ble_eq_true rfl)) hE hP hK hS (rv_0 hK hP (by decide)) rfl hl.1 rfl (Nat.le_of_ble_eq_true rfl) dX6_steps_24 ⟨Nat.le_of_ble_eq_true rfl, Nat.le_of_ble_eq_true rfl⟩ (fun H locs hP hS => ?_)
  refine lv_istore (lv' := [(4, .int v14), (3, .ref (Z.2.2 12 i1)), (0, .ref (Z.2.2 0 0)), (1, .int p0), (2, .int p1)]) hx hb dX6_steps_27 hl (by decide) rfl (fun ls hl => ?_)
  refine lv_iload hx hb dX6_steps_29 (lv_at hl 0 rfl) ?_
  refine lv_iconst (v := ((-1) : Int32)) hx hb dX6_steps_31 (by decide) ?_
  refine lv_icmp_ne (tgt := 45) hx hb dX6_steps_32 (by decide) (fun cz17 => ?_) (fun cz17 => ?_)
  · have hk := it_f cz17 hk
    refine lv_iload hx hb dX6_steps_45 (lv_at hl 0 rfl) ?_
    cases (show some _ = some _ from hk)
    exact we_i hx hb hr hlocks hP rfl hS dX6_steps_47 (by decide) (by decide)
  · have hk := it_t cz17 hk
    cases (show some _ = some _ from hk)
    obtain ⟨sa, hstr⟩ := EV.str hE (own := RX6) (k := 250) (tx := "the test was added behind that") (by decide +kernel)
    exact ng_throwS (mc := 3) (ms := 18) (Y1 := "java/lang/RuntimeException") (r9 := ["java/lang/Exception"]) hx hb hfl hown (by decide +kernel) (by decide +kernel) (by decide +kernel) (hts _ q866) (hts _ q99) hstr (th_190 hE hts) (by decide +kernel) (EV.zu hE) (EV.zn hE) hS (hl.1.trans hml.symm) dX6_steps_35 dX6_steps_38 dX6_steps_39 dX6_steps_41 dX6_steps_44 (hout9 _) (Nat.le_of_ble_eq_true rfl) (Nat.le_of_ble_eq_true rfl) (Nat.le_of_ble_eq_true rfl) (Nat.le_of_ble_eq_true rfl) hlocks (fun t9 _ h8 h9 => ⟨(), trivial, ⟨rfl, wP_kept hP h9⟩, fF hS h8 h9⟩) hS.2.2 (by decide) (by decide)
set_option maxHeartbeats 4000000 in
set_option maxRecDepth 100000 in
theorem k_X6_hasBody (l : Launch) (hfl : l.stackTraces = false) (Z : ZT) (hZ : wD Z) (X M O : SS) (p0 : Int32) (o : Int32 ⊕ String) (hf : f_X6_hasBody X p0 = some (o)) (sz : Nat) : vx_Met l yX6_hasBody ws_X6_hasBody rm_X6_hasBody (va_Pc [.ref (Z.2.2 0 0), .int p0] (cP Z (X, M, O) sz)) (cQi Z (X, M, O) o sz) (cX Z (X, M, O) o sz) 1 6 (wA Z sz) := by
  refine vx_ofW (cc := cX6_hasBody) (maxL := 2) (ret := (some .boolean)) (by decide) rfl ?_
  intro p e s m args below meth c s₁ B hml htab hv
  obtain ⟨hargs, hsz, hE, hP, hK⟩ := hv
  have hx := B.exec
  have hb := B.bytes
  have hr := B.returns
  have hts0 := atoms_spec (ws := ws_X6_hasBody) B.pre
  have hts : ∀ w ∈ lw_all, w.before args s = true := fun w h => hts0 w (List.mem_cons_of_mem _ h)
  have hown : s.vm.findClass RX6 = some m.cls := findClass_of_methodNamed B.named
  have hlocks := B.notSynchronized
  have hout9 : ∀ (pc9 : Nat), ∀ x ∈ c.exceptionTable.toList, covers x pc9 = false := fun _ x hx9 => (htab x hx9).elim
  subst hsz
  have hS : va_S (wA Z s.heap.size) s.heap s.heap [] := va_S.rf
  have hl := lv_entry ([.ref (Z.2.2 0 0), .int p0]) (n := 2) (Nat.le_of_ble_eq_true rfl)
  have hen : entryFrame m args 2 = entryFrame m ([.ref (Z.2.2 0 0), .int p0] : List Value).toArray 2 := by rw [hargs]
  rw [hen, lg_entry_eq]
  generalize (lg_sl ([.ref (Z.2.2 0 0), .int p0]) ++ List.replicate (2 - (lg_sl ([.ref (Z.2.2 0 0), .int p0])).length) Slot.unset).toArray = ls at hl ⊢
  have hl : lv_has ls 2 [(0, .ref (Z.2.2 0 0)), (1, .int p0)] := hl
  have hk := hf
  unfold f_X6_hasBody at hk
  refine lv_aload_n hx hb dX6_hasBody_0 rfl (lv_at hl 0 rfl) ?_
  refine lv_iload_n hx hb dX6_hasBody_1 rfl (lv_at hl 1 rfl) ?_
  obtain ⟨o3, hf2, hn5, he6⟩ := e0_s hk
  refine wc_qV (kd := 12) (rest := []) (As := [.int p0]) ⟨hx, hb, hml, hown, hts⟩ (fun sz => k_X6_workAt l hfl Z hZ X M O p0 o3 hf2 sz) (cw_RX6_219 (args := args) (s := s) hts (Nat.le_of_ble_eq_true rfl) (Nat.le_of_ble_eq_true rfl)) hE hP hK hS (rv_0 hK hP (by decide)) rfl hl.1 rfl (Nat.le_of_ble_eq_true rfl) dX6_hasBody_2 ⟨Nat.le_of_ble_eq_true rfl, Nat.le_of_ble_eq_true rfl⟩ (fun E4 ce9 q9 H locs hoE hP hS hc9 hv9 hcl9 => ?_) (fun i1 hi1 H locs ho hP hS => ?_)
  · have hk := he6 _ hoE
    cases (show some _ = some _ from hk)
    exact vx_out (hout9 _) hlocks hc9 hv9 hcl9 (fun t8 ht8 hA8 => ⟨(), trivial, ⟨rfl, wP_eq ht8 hP⟩, hS.F ht8⟩) hS.2.2 (by decide) (by decide)
  have hk := hn5 _ ho
  refine gf_RX6_252 hx hb hts hown hK hP hi1 dX6_hasBody_5 ?_
  obtain ⟨hg7, hk⟩ := gd_s hk
  cases (show some _ = some _ from hk)
  exact we_z hx hb hr hlocks hg7.1 hP rfl hS dX6_hasBody_8 (by decide) (by decide)
set_option maxHeartbeats 4000000 in
set_option maxRecDepth 100000 in
theorem k_X6_letter (l : Launch) (hfl : l.stackTraces = false) (Z : ZT) (hZ : wD Z) (X M O : SS) (p0 : Int32) (p1 : Int32) (o : Int32 ⊕ String) (hf : f_X6_letter X p0 p1 = some (o)) (sz : Nat) : vx_Met l yX6_letter ws_X6_letter rm_X6_letter (va_Pc [.ref (Z.2.2 0 0), .int p0, .int p1] (cP Z (X, M, O) sz)) (cQi Z (X, M, O) o sz) (cX Z (X, M, O) o sz) 2 12 (wA Z sz) := by
  refine vx_ofW (cc := cX6_letter) (maxL := 4) (ret := (some .char)) (by decide) rfl ?_
  intro p e s m args below meth c s₁ B hml htab hv
  obtain ⟨hargs, hsz, hE, hP, hK⟩ := hv
  have hx := B.exec
  have hb := B.bytes
  have hr := B.returns
  have hts0 := atoms_spec (ws := ws_X6_letter) B.pre
  have hts : ∀ w ∈ lw_all, w.before args s = true := fun w h => hts0 w (List.mem_cons_of_mem _ h)
  have hown : s.vm.findClass RX6 = some m.cls := findClass_of_methodNamed B.named
  have hlocks := B.notSynchronized
  have hout9 : ∀ (pc9 : Nat), ∀ x ∈ c.exceptionTable.toList, covers x pc9 = false := fun _ x hx9 => (htab x hx9).elim
  subst hsz
  have hS : va_S (wA Z s.heap.size) s.heap s.heap [] := va_S.rf
  have hl := lv_entry ([.ref (Z.2.2 0 0), .int p0, .int p1]) (n := 4) (Nat.le_of_ble_eq_true rfl)
  have hen : entryFrame m args 4 = entryFrame m ([.ref (Z.2.2 0 0), .int p0, .int p1] : List Value).toArray 4 := by rw [hargs]
  rw [hen, lg_entry_eq]
  generalize (lg_sl ([.ref (Z.2.2 0 0), .int p0, .int p1]) ++ List.replicate (4 - (lg_sl ([.ref (Z.2.2 0 0), .int p0, .int p1])).length) Slot.unset).toArray = ls at hl ⊢
  have hl : lv_has ls 4 [(0, .ref (Z.2.2 0 0)), (1, .int p0), (2, .int p1)] := hl
  have hk := hf
  unfold f_X6_letter at hk
  refine lv_aload_n hx hb dX6_letter_0 rfl (lv_at hl 0 rfl) ?_
  refine lv_iload_n hx hb dX6_letter_1 rfl (lv_at hl 1 rfl) ?_
  obtain ⟨o3, hf2, hn5, he6⟩ := e0_s hk
  refine wc_qV (kd := 12) (rest := []) (As := [.int p0]) ⟨hx, hb, hml, hown, hts⟩ (fun sz => k_X6_workAt l hfl Z hZ X M O p0 o3 hf2 sz) (cw_RX6_219 (args := args) (s := s) hts (Nat.le_of_ble_eq_true rfl) (Nat.le_of_ble_eq_true rfl)) hE hP hK hS (rv_0 hK hP (by decide)) rfl hl.1 rfl (Nat.le_of_ble_eq_true rfl) dX6_letter_2 ⟨Nat.le_of_ble_eq_true rfl, Nat.le_of_ble_eq_true rfl⟩ (fun E4 ce9 q9 H locs hoE hP hS hc9 hv9 hcl9 => ?_) (fun i1 hi1 H locs ho hP hS => ?_)
  · have hk := he6 _ hoE
    cases (show some _ = some _ from hk)
    exact vx_out (hout9 _) hlocks hc9 hv9 hcl9 (fun t8 ht8 hA8 => ⟨(), trivial, ⟨rfl, wP_eq ht8 hP⟩, hS.F ht8⟩) hS.2.2 (by decide) (by decide)
  have hk := hn5 _ ho
  refine lv_astore_n (lv' := [(3, .ref (Z.2.2 12 i1)), (0, .ref (Z.2.2 0 0)), (1, .int p0), (2, .int p1)]) hx hb dX6_letter_5 rfl hl (by decide) rfl (fun ls hl => ?_)
  refine lv_aload_n hx hb dX6_letter_6 rfl (lv_at hl 0 rfl) ?_
  refine gf_RX6_252 hx hb hts hown hK hP hi1 dX6_letter_7 ?_
  refine lv_if_eq (tgt := 28) hx hb dX6_letter_10 (by decide) (fun cz7 => ?_) (fun cz7 => ?_)
  · have hk := it_t cz7 hk
    cases (show some _ = some _ from hk)
    obtain ⟨sa, hstr⟩ := EV.str hE (own := RX6) (k := 258) (tx := "no body, or no such step") (by decide +kernel)
    exact ng_throwSW (mc := 2) (ms := 12) (Y1 := "java/lang/RuntimeException") (r9 := ["java/lang/Exception"]) hx hb hfl hown (by decide +kernel) (by decide +kernel) (by decide +kernel) (hts _ q866) (hts _ q99) hstr (th_190 hE hts) (by decide +kernel) (EV.zu hE) (EV.zn hE) hS (hl.1.trans hml.symm) dX6_letter_28 dX6_letter_31 dX6_letter_32 dX6_letter_35 dX6_letter_38 (hout9 _) (Nat.le_of_ble_eq_true rfl) (Nat.le_of_ble_eq_true rfl) (Nat.le_of_ble_eq_true rfl) (Nat.le_of_ble_eq_true rfl) hlocks (fun t9 _ h8 h9 => ⟨(), trivial, ⟨rfl, wP_kept hP h9⟩, fF hS h8 h9⟩) hS.2.2 (by decide) (by decide)
  · have hk := it_f cz7 hk
    refine lv_iload_n hx hb dX6_letter_13 rfl (lv_at hl 3 rfl) ?_
    refine lv_if_lt (tgt := 28) hx hb dX6_letter_14 (by decide) (fun cz8 => ?_) (fun cz8 => ?_)
    · have hk := it_t cz8 hk
      cases (show some _ = some _ from hk)
      obtain ⟨sa, hstr⟩ := EV.str hE (own := RX6) (k := 258) (tx := "no body, or no such step") (by decide +kernel)
      exact ng_throwSW (mc := 2) (ms := 12) (Y1 := "java/lang/RuntimeException") (r9 := ["java/lang/Exception"]) hx hb hfl hown (by decide +kernel) (by decide +kernel) (by decide +kernel) (hts _ q866) (hts _ q99) hstr (th_190 hE hts) (by decide +kernel) (EV.zu hE) (EV.zn hE) hS (hl.1.trans hml.symm) dX6_letter_28 dX6_letter_31 dX6_letter_32 dX6_letter_35 dX6_letter_38 (hout9 _) (Nat.le_of_ble_eq_true rfl) (Nat.le_of_ble_eq_true rfl) (Nat.le_of_ble_eq_true rfl) (Nat.le_of_ble_eq_true rfl) hlocks (fun t9 _ h8 h9 => ⟨(), trivial, ⟨rfl, wP_kept hP h9⟩, fF hS h8 h9⟩) hS.2.2 (by decide) (by decide)
    · have hk := it_f cz8 hk
      refine lv_iload_n hx hb dX6_letter_17 rfl (lv_at hl 3 rfl) ?_
      refine lv_aload_n hx hb dX6_letter_18 rfl (lv_at hl 0 rfl) ?_
      refine gf_RX6_255 hx hb hts hown hK hP hi1 dX6_letter_19 ?_
      refine gf_RX6_105 hx hb hts hown hK hP (lt_B hi1) dX6_letter_22 ?_
      refine lv_icmp_lt (tgt := 39) hx hb dX6_letter_25 (by decide) (fun cz9 => ?_) (fun cz9 => ?_)
      · have hk := it_t cz9 hk
        refine lv_aload_n hx hb dX6_letter_39 rfl (lv_at hl 0 rfl) ?_
        refine gf_RX6_255 hx hb hts hown hK hP hi1 dX6_letter_40 ?_
        refine gf_RX6_260 hx hb hts hown hK hP (lt_B hi1) dX6_letter_43 ?_
        refine lv_iload_n hx hb dX6_letter_46 rfl (lv_at hl 3 rfl) ?_
        obtain ⟨hg10, hk⟩ := gd_s hk
        refine wa_caload_2 hx hb hK hP (lt_B hi1) hg10 dX6_letter_47 ?_
        obtain ⟨hg11, hk⟩ := gd_s hk
        cases (show some _ = some _ from hk)
        exact we_z hx hb hr hlocks hg11.1 hP rfl hS dX6_letter_48 (by decide) (by decide)
      · have hk := it_f cz9 hk
        cases (show some _ = some _ from hk)
        obtain ⟨sa, hstr⟩ := EV.str hE (own := RX6) (k := 258) (tx := "no body, or no such step") (by decide +kernel)
        exact ng_throwSW (mc := 2) (ms := 12) (Y1 := "java/lang/RuntimeException") (r9 := ["java/lang/Exception"]) hx hb hfl hown (by decide +kernel) (by decide +kernel) (by decide +kernel) (hts _ q866) (hts _ q99) hstr (th_190 hE hts) (by decide +kernel) (EV.zu hE) (EV.zn hE) hS (hl.1.trans hml.symm) dX6_letter_28 dX6_letter_31 dX6_letter_32 dX6_letter_35 dX6_letter_38 (hout9 _) (Nat.le_of_ble_eq_true rfl) (Nat.le_of_ble_eq_true rfl) (Nat.le_of_ble_eq_true rfl) (Nat.le_of_ble_eq_true rfl) hlocks (fun t9 _ h8 h9 => ⟨(), trivial, ⟨rfl, wP_kept hP h9⟩, fF hS h8 h9⟩) hS.2.2 (by decide) (by decide)
set_option maxHeartbeats 4000000 in
set_option maxRecDepth 100000 in
theorem k_X6_drop (l : Launch) (hfl : l.stackTraces = false) (Z : ZT) (hZ : wD Z) (X M O : SS) (p0 : Int32) (Xz : SS) (o : Int32 ⊕ String) (hf : f_X6_drop X p0 = some (Xz, o)) (sz : Nat) : vx_Met l yX6_drop ws_X6_drop rm_X6_drop (va_Pc [.ref (Z.2.2 0 0), .int p0] (cP Z (X, M, O) sz)) (cQi Z (Xz, M, O) o sz) (cX Z (Xz, M, O) o sz) 2 12 (wA Z sz) := by
  refine vx_ofW (cc := cX6_drop) (maxL := 3) (ret := (some .int)) (by decide) rfl ?_
  intro p e s m args below meth c s₁ B hml htab hv
  obtain ⟨hargs, hsz, hE, hP, hK⟩ := hv
  have hx := B.exec
  have hb := B.bytes
  have hr := B.returns
  have hts0 := atoms_spec (ws := ws_X6_drop) B.pre
  have hts : ∀ w ∈ lw_all, w.before args s = true := fun w h => hts0 w (List.mem_cons_of_mem _ h)
  have hown : s.vm.findClass RX6 = some m.cls := findClass_of_methodNamed B.named
  have hlocks := B.notSynchronized
  have hout9 : ∀ (pc9 : Nat), ∀ x ∈ c.exceptionTable.toList, covers x pc9 = false := fun _ x hx9 => (htab x hx9).elim
  subst hsz
  have hS : va_S (wA Z s.heap.size) s.heap s.heap [] := va_S.rf
  have hl := lv_entry ([.ref (Z.2.2 0 0), .int p0]) (n := 3) (Nat.le_of_ble_eq_true rfl)
  have hen : entryFrame m args 3 = entryFrame m ([.ref (Z.2.2 0 0), .int p0] : List Value).toArray 3 := by rw [hargs]
  rw [hen, lg_entry_eq]
  generalize (lg_sl ([.ref (Z.2.2 0 0), .int p0]) ++ List.replicate (3 - (lg_sl ([.ref (Z.2.2 0 0), .int p0])).length) Slot.unset).toArray = ls at hl ⊢
  have hl : lv_has ls 3 [(0, .ref (Z.2.2 0 0)), (1, .int p0)] := hl
  have hk := hf
  unfold f_X6_drop at hk
  refine lv_aload_n hx hb dX6_drop_0 rfl (lv_at hl 0 rfl) ?_
  refine lv_iload_n hx hb dX6_drop_1 rfl (lv_at hl 1 rfl) ?_
  obtain ⟨o3, hf2, hn5, he6⟩ := e0_s hk
  refine wc_qV (kd := 12) (rest := []) (As := [.int p0]) ⟨hx, hb, hml, hown, hts⟩ (fun sz => k_X6_workAt l hfl Z hZ X M O p0 o3 hf2 sz) (cw_RX6_219 (args := args) (s := s) hts (Nat.le_of_ble_eq_true rfl) (Nat.le_of_ble_eq_true rfl)) hE hP hK hS (rv_0 hK hP (by decide)) rfl hl.1 rfl (Nat.le_of_ble_eq_true rfl) dX6_drop_2 ⟨Nat.le_of_ble_eq_true rfl, Nat.le_of_ble_eq_true rfl⟩ (fun E4 ce9 q9 H locs hoE hP hS hc9 hv9 hcl9 => ?_) (fun i1 hi1 H locs ho hP hS => ?_)
  · have hk := he6 _ hoE
    cases (show some _ = some _ from hk)
    exact vx_out (hout9 _) hlocks hc9 hv9 hcl9 (fun t8 ht8 hA8 => ⟨(), trivial, ⟨rfl, wP_eq ht8 hP⟩, hS.F ht8⟩) hS.2.2 (by decide) (by decide)
  have hk := hn5 _ ho
  refine lv_astore_n (lv' := [(2, .ref (Z.2.2 12 i1)), (0, .ref (Z.2.2 0 0)), (1, .int p0)]) hx hb dX6_drop_5 rfl hl (by decide) rfl (fun ls hl => ?_)
  refine lv_aload_n hx hb dX6_drop_6 rfl (lv_at hl 0 rfl) ?_
  refine gf_RX6_252 hx hb hts hown hK hP hi1 dX6_drop_7 ?_
  refine lv_if_ne (tgt := 24) hx hb dX6_drop_10 (by decide) (fun cz7 => ?_) (fun cz7 => ?_)
  · have hk := it_f cz7 hk
    refine lv_aload_n hx hb dX6_drop_24 rfl (lv_at hl 1 rfl) ?_
    refine lv_aload_n hx hb dX6_drop_25 rfl (lv_at hl 0 rfl) ?_
    obtain ⟨X9, v8, hf10, hk⟩ := b1_s hk
    refine wc_vV0 (rest := []) (As := [.ref (Z.2.2 12 i1)]) ⟨hx, hb, hml, hown, hts⟩ (fun sz => k_X6_dropBody l hfl Z hZ X M O i1 hi1 X9 v8 hf10 sz) (cw_RX6_266 (args := args) (s := s) hts (Nat.le_of_ble_eq_true rfl) (Nat.le_of_ble_eq_true rfl)) hE hP hK hS (rv_0 hK hP (by decide)) rfl hl.1 rfl (Nat.le_of_ble_eq_true rfl) dX6_drop_26 ⟨Nat.le_of_ble_eq_true rfl, Nat.le_of_ble_eq_true rfl⟩ (fun H locs hP hS => ?_)
    refine lv_aload_n hx hb dX6_drop_29 rfl (lv_at hl 1 rfl) ?_
    obtain ⟨v11, hf12, hk⟩ := b0_s hk
    refine wc_iV0 (rest := []) (As := []) ⟨hx, hb, hml, hown, hts⟩ (fun sz => k_X6_bodyCount l hfl Z hZ X9 M O v11 hf12 sz) (cw_RX6_270 (args := args) (s := s) hts (Nat.le_of_ble_eq_true rfl) (Nat.le_of_ble_eq_true rfl)) hE hP hK hS (rv_0 hK hP (by decide)) rfl hl.1 rfl (Nat.le_of_ble_eq_true rfl) dX6_drop_30 ⟨Nat.le_of_ble_eq_true rfl, Nat.le_of_ble_eq_true rfl⟩ (fun H locs hP hS => ?_)
    cases (show some _ = some _ from hk)
    exact we_i hx hb hr hlocks hP rfl hS dX6_drop_33 (by decide) (by decide)
  · have hk := it_t cz7 hk
    cases (show some _ = some _ from hk)
    obtain ⟨sa, hstr⟩ := EV.str hE (own := RX6) (k := 264) (tx := "the work has no body") (by decide +kernel)
    exact vx_throwSW (mc := 2) (ms := 12) (names := ["java/lang/RuntimeException", "java/lang/Exception"]) hx hb hfl hown (by decide +kernel) (by decide +kernel) (hts _ q838) (hts _ q98) hstr (th_171 hE hts) (by decide +kernel) (EV.zu hE) (EV.zn hE) hS (hl.1.trans hml.symm) dX6_drop_13 dX6_drop_16 dX6_drop_17 dX6_drop_20 dX6_drop_23 (hout9 _) (Nat.le_of_ble_eq_true rfl) (Nat.le_of_ble_eq_true rfl) (Nat.le_of_ble_eq_true rfl) (Nat.le_of_ble_eq_true rfl) hlocks (fun t9 _ h8 h9 => ⟨(), trivial, ⟨rfl, wP_kept hP h9⟩, fF hS h8 h9⟩) hS.2.2 (by decide) (by decide)
set_option maxHeartbeats 4000000 in
set_option maxRecDepth 100000 in
theorem k_X6_capacity (l : Launch) (hfl : l.stackTraces = false) (Z : ZT) (hZ : wD Z) (X M O : SS) (p0 : Int32) (Xz : SS) (o : Int32 ⊕ String) (hf : f_X6_capacity X p0 = some (Xz, o)) (sz : Nat) : vx_Met l yX6_capacity ws_X6_capacity rm_X6_capacity (va_Pc [.ref (Z.2.2 0 0), .int p0] (cP Z (X, M, O) sz)) (cQi Z (Xz, M, O) o sz) (cX Z (Xz, M, O) o sz) 1 6 (wA Z sz) := by
  refine vx_ofW (cc := cX6_capacity) (maxL := 2) (ret := (some .int)) (by decide) rfl ?_
  intro p e s m args below meth c s₁ B hml htab hv
  obtain ⟨hargs, hsz, hE, hP, hK⟩ := hv
  have hx := B.exec
  have hb := B.bytes
  have hr := B.returns
  have hts0 := atoms_spec (ws := ws_X6_capacity) B.pre
  have hts : ∀ w ∈ lw_all, w.before args s = true := fun w h => hts0 w (List.mem_cons_of_mem _ h)
  have hown : s.vm.findClass RX6 = some m.cls := findClass_of_methodNamed B.named
  have hlocks := B.notSynchronized
  have hout9 : ∀ (pc9 : Nat), ∀ x ∈ c.exceptionTable.toList, covers x pc9 = false := fun _ x hx9 => (htab x hx9).elim
  subst hsz
  have hS : va_S (wA Z s.heap.size) s.heap s.heap [] := va_S.rf
  have hl := lv_entry ([.ref (Z.2.2 0 0), .int p0]) (n := 2) (Nat.le_of_ble_eq_true rfl)
  have hen : entryFrame m args 2 = entryFrame m ([.ref (Z.2.2 0 0), .int p0] : List Value).toArray 2 := by rw [hargs]
  rw [hen, lg_entry_eq]
  generalize (lg_sl ([.ref (Z.2.2 0 0), .int p0]) ++ List.replicate (2 - (lg_sl ([.ref (Z.2.2 0 0), .int p0])).length) Slot.unset).toArray = ls at hl ⊢
  have hl : lv_has ls 2 [(0, .ref (Z.2.2 0 0)), (1, .int p0)] := hl
  have hk := hf
  unfold f_X6_capacity at hk
  refine lv_iload_n hx hb dX6_capacity_0 rfl (lv_at hl 1 rfl) ?_
  refine lv_iconst (v := (1 : Int32)) hx hb dX6_capacity_1 (by decide) ?_
  refine lv_icmp_lt (tgt := 11) hx hb dX6_capacity_2 (by decide) (fun cz1 => ?_) (fun cz1 => ?_)
  · have hk := it_t cz1 hk
    cases (show some _ = some _ from hk)
    obtain ⟨sa, hstr⟩ := EV.str hE (own := RX6) (k := 273) (tx := "the room is out of range") (by decide +kernel)
    exact vx_throwSW (mc := 1) (ms := 6) (names := ["java/lang/RuntimeException", "java/lang/Exception"]) hx hb hfl hown (by decide +kernel) (by decide +kernel) (hts _ q629) (hts _ q94) hstr (th_96 hE hts) (by decide +kernel) (EV.zu hE) (EV.zn hE) hS (hl.1.trans hml.symm) dX6_capacity_11 dX6_capacity_14 dX6_capacity_15 dX6_capacity_18 dX6_capacity_21 (hout9 _) (Nat.le_of_ble_eq_true rfl) (Nat.le_of_ble_eq_true rfl) (Nat.le_of_ble_eq_true rfl) (Nat.le_of_ble_eq_true rfl) hlocks (fun t9 _ h8 h9 => ⟨(), trivial, ⟨rfl, wP_kept hP h9⟩, fF hS h8 h9⟩) hS.2.2 (by decide) (by decide)
  · have hk := it_f cz1 hk
    refine lv_iload_n hx hb dX6_capacity_5 rfl (lv_at hl 1 rfl) ?_
    refine lv_bipush (v := (40 : Int32)) hx hb dX6_capacity_6 (by decide) ?_
    refine lv_icmp_le (tgt := 22) hx hb dX6_capacity_8 (by decide) (fun cz2 => ?_) (fun cz2 => ?_)
    · have hk := it_t cz2 hk
      refine lv_aload_n hx hb dX6_capacity_22 rfl (lv_at hl 0 rfl) ?_
      refine lv_iload_n hx hb dX6_capacity_23 rfl (lv_at hl 1 rfl) ?_
      obtain ⟨X3, eX3, hk⟩ := lq_s hk
      refine pf_RX6_71 hx hb hts hown hZ hK hP hS (by decide) dX6_capacity_24 (fun H locs hP hS => ?_)
      rw [← eX3] at hP
      refine lv_aload_n hx hb dX6_capacity_27 rfl (lv_at hl 0 rfl) ?_
      obtain ⟨X5, v4, hf6, hk⟩ := b1_s hk
      refine wc_iV0 (rest := []) (As := []) ⟨hx, hb, hml, hown, hts⟩ (fun sz => k_X6_makeRoom l hfl Z hZ X3 M O X5 v4 hf6 sz) (cw_RX6_215 (args := args) (s := s) hts (Nat.le_of_ble_eq_true rfl) (Nat.le_of_ble_eq_true rfl)) hE hP hK hS (rv_0 hK hP (by decide)) rfl hl.1 rfl (Nat.le_of_ble_eq_true rfl) dX6_capacity_28 ⟨Nat.le_of_ble_eq_true rfl, Nat.le_of_ble_eq_true rfl⟩ (fun H locs hP hS => ?_)
      cases (show some _ = some _ from hk)
      exact we_i hx hb hr hlocks hP rfl hS dX6_capacity_31 (by decide) (by decide)
    · have hk := it_f cz2 hk
      cases (show some _ = some _ from hk)
      obtain ⟨sa, hstr⟩ := EV.str hE (own := RX6) (k := 273) (tx := "the room is out of range") (by decide +kernel)
      exact vx_throwSW (mc := 1) (ms := 6) (names := ["java/lang/RuntimeException", "java/lang/Exception"]) hx hb hfl hown (by decide +kernel) (by decide +kernel) (hts _ q629) (hts _ q94) hstr (th_96 hE hts) (by decide +kernel) (EV.zu hE) (EV.zn hE) hS (hl.1.trans hml.symm) dX6_capacity_11 dX6_capacity_14 dX6_capacity_15 dX6_capacity_18 dX6_capacity_21 (hout9 _) (Nat.le_of_ble_eq_true rfl) (Nat.le_of_ble_eq_true rfl) (Nat.le_of_ble_eq_true rfl) (Nat.le_of_ble_eq_true rfl) hlocks (fun t9 _ h8 h9 => ⟨(), trivial, ⟨rfl, wP_kept hP h9⟩, fF hS h8 h9⟩) hS.2.2 (by decide) (by decide)
set_option maxHeartbeats 4000000 in
set_option maxRecDepth 100000 in
theorem k_X6_bodies (l : Launch) (hfl : l.stackTraces = false) (Z : ZT) (hZ : wD Z) (X M O : SS) (r : Int32) (hf : f_X6_bodies X = some (r)) (sz : Nat) : vx_Met l yX6_bodies ws_X6_bodies rm_X6_bodies (va_Pc [.ref (Z.2.2 0 0)] (cP Z (X, M, O) sz)) (cQi Z (X, M, O) (.inl r) sz) (cX Z (X, M, O) (.inl r : Int32 ⊕ String) sz) 0 0 (wA Z sz) := by
  refine vx_ofW (cc := cX6_bodies) (maxL := 1) (ret := (some .int)) (by decide) rfl ?_
  intro p e s m args below meth c s₁ B hml htab hv
  obtain ⟨hargs, hsz, hE, hP, hK⟩ := hv
  have hx := B.exec
  have hb := B.bytes
  have hr := B.returns
  have hts0 := atoms_spec (ws := ws_X6_bodies) B.pre
  have hts : ∀ w ∈ lw_all, w.before args s = true := fun w h => hts0 w (List.mem_cons_of_mem _ h)
  have hown : s.vm.findClass RX6 = some m.cls := findClass_of_methodNamed B.named
  have hlocks := B.notSynchronized
  have hout9 : ∀ (pc9 : Nat), ∀ x ∈ c.exceptionTable.toList, covers x pc9 = false := fun _ x hx9 => (htab x hx9).elim
  subst hsz
  have hS : va_S (wA Z s.heap.size) s.heap s.heap [] := va_S.rf
  have hl := lv_entry ([.ref (Z.2.2 0 0)]) (n := 1) (Nat.le_of_ble_eq_true rfl)
  have hen : entryFrame m args 1 = entryFrame m ([.ref (Z.2.2 0 0)] : List Value).toArray 1 := by rw [hargs]
  rw [hen, lg_entry_eq]
  generalize (lg_sl ([.ref (Z.2.2 0 0)]) ++ List.replicate (1 - (lg_sl ([.ref (Z.2.2 0 0)])).length) Slot.unset).toArray = ls at hl ⊢
  have hl : lv_has ls 1 [(0, .ref (Z.2.2 0 0))] := hl
  have hk := hf
  unfold f_X6_bodies at hk
  refine lv_aload_n hx hb dX6_bodies_0 rfl (lv_at hl 0 rfl) ?_
  obtain ⟨v1, hf2, hk⟩ := b0_s hk
  refine wc_iV0 (rest := []) (As := []) ⟨hx, hb, hml, hown, hts⟩ (fun sz => k_X6_bodyCount l hfl Z hZ X M O v1 hf2 sz) (cw_RX6_270 (args := args) (s := s) hts (Nat.le_of_ble_eq_true rfl) (Nat.le_of_ble_eq_true rfl)) hE hP hK hS (rv_0 hK hP (by decide)) rfl hl.1 rfl (Nat.le_of_ble_eq_true rfl) dX6_bodies_1 ⟨Nat.le_of_ble_eq_true rfl, Nat.le_of_ble_eq_true rfl⟩ (fun H locs hP hS => ?_)
  cases (show some _ = some _ from hk)
  exact we_i hx hb hr hlocks hP rfl hS dX6_bodies_4 (by decide) (by decide)
set_option maxHeartbeats 4000000 in
set_option maxRecDepth 100000 in
theorem k_X6_read (l : Launch) (hfl : l.stackTraces = false) (Z : ZT) (hZ : wD Z) (X M O : SS) (p0 : Int32) (p1 : Int32) (Xz : SS) (o : Int32 ⊕ String) (hf : f_X6_read X p0 p1 = some (Xz, o)) (sz : Nat) : vx_Met l yX6_read ws_X6_read rm_X6_read (va_Pc [.ref (Z.2.2 0 0), .int p0, .int p1] (cP Z (X, M, O) sz)) (cQi Z (Xz, M, O) o sz) (cX Z (Xz, M, O) o sz) 3 18 (wA Z sz) := by
  refine vx_ofW (cc := cX6_read) (maxL := 5) (ret := (some .int)) (by decide) rfl ?_
  intro p e s m args below meth c s₁ B hml htab hv
  obtain ⟨hargs, hsz, hE, hP, hK⟩ := hv
  have hx := B.exec
  have hb := B.bytes
  have hr := B.returns
  have hts0 := atoms_spec (ws := ws_X6_read) B.pre
  have hts : ∀ w ∈ lw_all, w.before args s = true := fun w h => hts0 w (List.mem_cons_of_mem _ h)
  have hown : s.vm.findClass RX6 = some m.cls := findClass_of_methodNamed B.named
  have hlocks := B.notSynchronized
  have hout9 : ∀ (pc9 : Nat), ∀ x ∈ c.exceptionTable.toList, covers x pc9 = false := fun _ x hx9 => (htab x hx9).elim
  subst hsz
  have hS : va_S (wA Z s.heap.size) s.heap s.heap [] := va_S.rf
  have hl := lv_entry ([.ref (Z.2.2 0 0), .int p0, .int p1]) (n := 5) (Nat.le_of_ble_eq_true rfl)
  have hen : entryFrame m args 5 = entryFrame m ([.ref (Z.2.2 0 0), .int p0, .int p1] : List Value).toArray 5 := by rw [hargs]
  rw [hen, lg_entry_eq]
  generalize (lg_sl ([.ref (Z.2.2 0 0), .int p0, .int p1]) ++ List.replicate (5 - (lg_sl ([.ref (Z.2.2 0 0), .int p0, .int p1])).length) Slot.unset).toArray = ls at hl ⊢
  have hl : lv_has ls 5 [(0, .ref (Z.2.2 0 0)), (1, .int p0), (2, .int p1)] := hl
  have hk := hf
  unfold f_X6_read at hk
  refine lv_aload_n hx hb dX6_read_0 rfl (lv_at hl 0 rfl) ?_
  refine lv_iload_n hx hb dX6_read_1 rfl (lv_at hl 1 rfl) ?_
  obtain ⟨o3, hf2, hn5, he6⟩ := e0_s hk
  refine wc_qV (kd := 9) (rest := []) (As := [.int p0]) ⟨hx, hb, hml, hown, hts⟩ (fun sz => k_X6_memberAt l hfl Z hZ X M O p0 o3 hf2 sz) (cw_RX6_199 (args := args) (s := s) hts (Nat.le_of_ble_eq_true rfl) (Nat.le_of_ble_eq_true rfl)) hE hP hK hS (rv_0 hK hP (by decide)) rfl hl.1 rfl (Nat.le_of_ble_eq_true rfl) dX6_read_2 ⟨Nat.le_of_ble_eq_true rfl, Nat.le_of_ble_eq_true rfl⟩ (fun E4 ce9 q9 H locs hoE hP hS hc9 hv9 hcl9 => ?_) (fun i1 hi1 H locs ho hP hS => ?_)
  · have hk := he6 _ hoE
    cases (show some _ = some _ from hk)
    exact vx_out (hout9 _) hlocks hc9 hv9 hcl9 (fun t8 ht8 hA8 => ⟨(), trivial, ⟨rfl, wP_eq ht8 hP⟩, hS.F ht8⟩) hS.2.2 (by decide) (by decide)
  have hk := hn5 _ ho
  refine lv_astore_n (lv' := [(3, .ref (Z.2.2 9 i1)), (0, .ref (Z.2.2 0 0)), (1, .int p0), (2, .int p1)]) hx hb dX6_read_5 rfl hl (by decide) rfl (fun ls hl => ?_)
  refine lv_aload_n hx hb dX6_read_6 rfl (lv_at hl 1 rfl) ?_
  refine lv_iload_n hx hb dX6_read_7 rfl (lv_at hl 3 rfl) ?_
  obtain ⟨o9, hf8, hn11, he12⟩ := e0_s hk
  refine wc_qV (kd := 12) (rest := []) (As := [.int p1]) ⟨hx, hb, hml, hown, hts⟩ (fun sz => k_X6_workAt l hfl Z hZ X M O p1 o9 hf8 sz) (cw_RX6_219 (args := args) (s := s) hts (Nat.le_of_ble_eq_true rfl) (Nat.le_of_ble_eq_true rfl)) hE hP hK hS (rv_0 hK hP (by decide)) rfl hl.1 rfl (Nat.le_of_ble_eq_true rfl) dX6_read_8 ⟨Nat.le_of_ble_eq_true rfl, Nat.le_of_ble_eq_true rfl⟩ (fun E10 ce9 q9 H locs hoE hP hS hc9 hv9 hcl9 => ?_) (fun i7 hi7 H locs ho hP hS => ?_)
  · have hk := he12 _ hoE
    cases (show some _ = some _ from hk)
    exact vx_out (hout9 _) hlocks hc9 hv9 hcl9 (fun t8 ht8 hA8 => ⟨(), trivial, ⟨rfl, wP_eq ht8 hP⟩, hS.F ht8⟩) hS.2.2 (by decide) (by decide)
  have hk := hn11 _ ho
  refine lv_astore (lv' := [(4, .ref (Z.2.2 12 i7)), (3, .ref (Z.2.2 9 i1)), (0, .ref (Z.2.2 0 0)), (1, .int p0), (2, .int p1)]) hx hb dX6_read_11 hl (by decide) rfl (fun ls hl => ?_)
  refine lv_aload hx hb dX6_read_13 (lv_at hl 0 rfl) ?_
  refine gf_RX6_252 hx hb hts hown hK hP hi7 dX6_read_15 ?_
  refine lv_if_ne (tgt := 32) hx hb dX6_read_18 (by decide) (fun cz13 => ?_) (fun cz13 => ?_)
  · have hk := it_f cz13 hk
    refine lv_aload_n hx hb dX6_read_32 rfl (lv_at hl 1 rfl) ?_
    refine lv_iload_n hx hb dX6_read_33 rfl (lv_at hl 4 rfl) ?_
    refine lv_aload hx hb dX6_read_34 (lv_at hl 0 rfl) ?_
    refine gf_RX6_255 hx hb hts hown hK hP hi7 dX6_read_36 ?_
    obtain ⟨X15, v14, hf16, hk⟩ := b1_s hk
    refine wc_vV0 (rest := []) (As := [.int p1, .ref (Z.2.2 1 (i7 + 1))]) ⟨hx, hb, hml, hown, hts⟩ (fun sz => k_X2_keepCopy l hfl Z hZ X M O i1 p1 (i7 + 1) hi1 (lt_B hi7) X15 v14 hf16 sz) (cw_RX6_275 (args := args) (s := s) hts (Nat.le_of_ble_eq_true rfl) (Nat.le_of_ble_eq_true rfl)) hE hP hK hS (rv_9 hK hP hi1) rfl hl.1 rfl (Nat.le_of_ble_eq_true rfl) dX6_read_39 ⟨Nat.le_of_ble_eq_true rfl, Nat.le_of_ble_eq_true rfl⟩ (fun H locs hP hS => ?_)
    refine lv_aload_n hx hb dX6_read_42 rfl (lv_at hl 1 rfl) ?_
    refine gf_RX6_279 hx hb hts hown hK hP hi1 dX6_read_43 ?_
    cases (show some _ = some _ from hk)
    exact we_i hx hb hr hlocks hP rfl hS dX6_read_46 (by decide) (by decide)
  · have hk := it_t cz13 hk
    cases (show some _ = some _ from hk)
    obtain ⟨sa, hstr⟩ := EV.str hE (own := RX6) (k := 264) (tx := "the work has no body") (by decide +kernel)
    exact ng_throwSW (mc := 3) (ms := 18) (Y1 := "java/lang/RuntimeException") (r9 := ["java/lang/Exception"]) hx hb hfl hown (by decide +kernel) (by decide +kernel) (by decide +kernel) (hts _ q866) (hts _ q99) hstr (th_190 hE hts) (by decide +kernel) (EV.zu hE) (EV.zn hE) hS (hl.1.trans hml.symm) dX6_read_21 dX6_read_24 dX6_read_25 dX6_read_28 dX6_read_31 (hout9 _) (Nat.le_of_ble_eq_true rfl) (Nat.le_of_ble_eq_true rfl) (Nat.le_of_ble_eq_true rfl) (Nat.le_of_ble_eq_true rfl) hlocks (fun t9 _ h8 h9 => ⟨(), trivial, ⟨rfl, wP_kept hP h9⟩, fF hS h8 h9⟩) hS.2.2 (by decide) (by decide)
set_option maxHeartbeats 4000000 in
set_option maxRecDepth 100000 in
theorem k_X6_copy (l : Launch) (hfl : l.stackTraces = false) (Z : ZT) (hZ : wD Z) (X M O : SS) (p0 : Int32) (p1 : Int32) (o : Int32 ⊕ String) (hf : f_X6_copy X p0 p1 = some (o)) (sz : Nat) : vx_Met l yX6_copy ws_X6_copy rm_X6_copy (va_Pc [.ref (Z.2.2 0 0), .int p0, .int p1] (cP Z (X, M, O) sz)) (cQi Z (X, M, O) o sz) (cX Z (X, M, O) o sz) 2 12 (wA Z sz) := by
  refine vx_ofW (cc := cX6_copy) (maxL := 4) (ret := (some .int)) (by decide) rfl ?_
  intro p e s m args below meth c s₁ B hml htab hv
  obtain ⟨hargs, hsz, hE, hP, hK⟩ := hv
  have hx := B.exec
  have hb := B.bytes
  have hr := B.returns
  have hts0 := atoms_spec (ws := ws_X6_copy) B.pre
  have hts : ∀ w ∈ lw_all, w.before args s = true := fun w h => hts0 w (List.mem_cons_of_mem _ h)
  have hown : s.vm.findClass RX6 = some m.cls := findClass_of_methodNamed B.named
  have hlocks := B.notSynchronized
  have hout9 : ∀ (pc9 : Nat), ∀ x ∈ c.exceptionTable.toList, covers x pc9 = false := fun _ x hx9 => (htab x hx9).elim
  subst hsz
  have hS : va_S (wA Z s.heap.size) s.heap s.heap [] := va_S.rf
  have hl := lv_entry ([.ref (Z.2.2 0 0), .int p0, .int p1]) (n := 4) (Nat.le_of_ble_eq_true rfl)
  have hen : entryFrame m args 4 = entryFrame m ([.ref (Z.2.2 0 0), .int p0, .int p1] : List Value).toArray 4 := by rw [hargs]
  rw [hen, lg_entry_eq]
  generalize (lg_sl ([.ref (Z.2.2 0 0), .int p0, .int p1]) ++ List.replicate (4 - (lg_sl ([.ref (Z.2.2 0 0), .int p0, .int p1])).length) Slot.unset).toArray = ls at hl ⊢
  have hl : lv_has ls 4 [(0, .ref (Z.2.2 0 0)), (1, .int p0), (2, .int p1)] := hl
  have hk := hf
  unfold f_X6_copy at hk
  refine lv_aload_n hx hb dX6_copy_0 rfl (lv_at hl 0 rfl) ?_
  refine lv_iload_n hx hb dX6_copy_1 rfl (lv_at hl 1 rfl) ?_
  obtain ⟨o3, hf2, hn5, he6⟩ := e0_s hk
  refine wc_qV (kd := 9) (rest := []) (As := [.int p0]) ⟨hx, hb, hml, hown, hts⟩ (fun sz => k_X6_memberAt l hfl Z hZ X M O p0 o3 hf2 sz) (cw_RX6_199 (args := args) (s := s) hts (Nat.le_of_ble_eq_true rfl) (Nat.le_of_ble_eq_true rfl)) hE hP hK hS (rv_0 hK hP (by decide)) rfl hl.1 rfl (Nat.le_of_ble_eq_true rfl) dX6_copy_2 ⟨Nat.le_of_ble_eq_true rfl, Nat.le_of_ble_eq_true rfl⟩ (fun E4 ce9 q9 H locs hoE hP hS hc9 hv9 hcl9 => ?_) (fun i1 hi1 H locs ho hP hS => ?_)
  · have hk := he6 _ hoE
    cases (show some _ = some _ from hk)
    exact vx_out (hout9 _) hlocks hc9 hv9 hcl9 (fun t8 ht8 hA8 => ⟨(), trivial, ⟨rfl, wP_eq ht8 hP⟩, hS.F ht8⟩) hS.2.2 (by decide) (by decide)
  have hk := hn5 _ ho
  refine lv_astore_n (lv' := [(3, .ref (Z.2.2 9 i1)), (0, .ref (Z.2.2 0 0)), (1, .int p0), (2, .int p1)]) hx hb dX6_copy_5 rfl hl (by decide) rfl (fun ls hl => ?_)
  refine lv_iload_n hx hb dX6_copy_6 rfl (lv_at hl 3 rfl) ?_
  refine lv_if_lt (tgt := 18) hx hb dX6_copy_7 (by decide) (fun cz7 => ?_) (fun cz7 => ?_)
  · have hk := it_t cz7 hk
    cases (show some _ = some _ from hk)
    obtain ⟨sa, hstr⟩ := EV.str hE (own := RX6) (k := 282) (tx := "no such copy") (by decide +kernel)
    exact ng_throwSW (mc := 2) (ms := 12) (Y1 := "java/lang/RuntimeException") (r9 := ["java/lang/Exception"]) hx hb hfl hown (by decide +kernel) (by decide +kernel) (by decide +kernel) (hts _ q866) (hts _ q99) hstr (th_190 hE hts) (by decide +kernel) (EV.zu hE) (EV.zn hE) hS (hl.1.trans hml.symm) dX6_copy_18 dX6_copy_21 dX6_copy_22 dX6_copy_25 dX6_copy_28 (hout9 _) (Nat.le_of_ble_eq_true rfl) (Nat.le_of_ble_eq_true rfl) (Nat.le_of_ble_eq_true rfl) (Nat.le_of_ble_eq_true rfl) hlocks (fun t9 _ h8 h9 => ⟨(), trivial, ⟨rfl, wP_kept hP h9⟩, fF hS h8 h9⟩) hS.2.2 (by decide) (by decide)
  · have hk := it_f cz7 hk
    refine lv_iload_n hx hb dX6_copy_10 rfl (lv_at hl 3 rfl) ?_
    refine lv_aload_n hx hb dX6_copy_11 rfl (lv_at hl 0 rfl) ?_
    refine gf_RX6_279 hx hb hts hown hK hP hi1 dX6_copy_12 ?_
    refine lv_icmp_lt (tgt := 29) hx hb dX6_copy_15 (by decide) (fun cz8 => ?_) (fun cz8 => ?_)
    · have hk := it_t cz8 hk
      refine lv_aload_n hx hb dX6_copy_29 rfl (lv_at hl 0 rfl) ?_
      refine gf_RX6_284 hx hb hts hown hK hP hi1 dX6_copy_30 ?_
      refine lv_iload_n hx hb dX6_copy_33 rfl (lv_at hl 3 rfl) ?_
      obtain ⟨hg9, hk⟩ := gd_s hk
      refine wa_iaload_11 hx hb hK hP hi1 hg9 dX6_copy_34 ?_
      cases (show some _ = some _ from hk)
      exact we_i hx hb hr hlocks hP rfl hS dX6_copy_35 (by decide) (by decide)
    · have hk := it_f cz8 hk
      cases (show some _ = some _ from hk)
      obtain ⟨sa, hstr⟩ := EV.str hE (own := RX6) (k := 282) (tx := "no such copy") (by decide +kernel)
      exact ng_throwSW (mc := 2) (ms := 12) (Y1 := "java/lang/RuntimeException") (r9 := ["java/lang/Exception"]) hx hb hfl hown (by decide +kernel) (by decide +kernel) (by decide +kernel) (hts _ q866) (hts _ q99) hstr (th_190 hE hts) (by decide +kernel) (EV.zu hE) (EV.zn hE) hS (hl.1.trans hml.symm) dX6_copy_18 dX6_copy_21 dX6_copy_22 dX6_copy_25 dX6_copy_28 (hout9 _) (Nat.le_of_ble_eq_true rfl) (Nat.le_of_ble_eq_true rfl) (Nat.le_of_ble_eq_true rfl) (Nat.le_of_ble_eq_true rfl) hlocks (fun t9 _ h8 h9 => ⟨(), trivial, ⟨rfl, wP_kept hP h9⟩, fF hS h8 h9⟩) hS.2.2 (by decide) (by decide)
set_option maxHeartbeats 4000000 in
set_option maxRecDepth 100000 in
theorem k_X6_isOpenToVoteOf (l : Launch) (hfl : l.stackTraces = false) (Z : ZT) (hZ : wD Z) (X M O : SS) (p0 : Int32) (i2 : Nat) (hi2 : i2 < 40) (r : Int32) (hf : f_X6_isOpenToVoteOf X p0 i2 = some (r)) (sz : Nat) : vx_Met l yX6_isOpenToVoteOf ws_X6_isOpenToVoteOf rm_X6_isOpenToVoteOf (va_Pc [.int p0, .ref (Z.2.2 12 i2)] (cP Z (X, M, O) sz)) (cQi Z (X, M, O) (.inl r) sz) (cX Z (X, M, O) (.inl r : Int32 ⊕ String) sz) 0 0 (wA Z sz) := by
  refine vx_ofW (cc := cX6_isOpenToVoteOf) (maxL := 2) (ret := (some .boolean)) (by decide) rfl ?_
  intro p e s m args below meth c s₁ B hml htab hv
  obtain ⟨hargs, hsz, hE, hP, hK⟩ := hv
  have hx := B.exec
  have hb := B.bytes
  have hr := B.returns
  have hts0 := atoms_spec (ws := ws_X6_isOpenToVoteOf) B.pre
  have hts : ∀ w ∈ lw_all, w.before args s = true := fun w h => hts0 w (List.mem_cons_of_mem _ h)
  have hown : s.vm.findClass RX6 = some m.cls := findClass_of_methodNamed B.named
  have hlocks := B.notSynchronized
  have hout9 : ∀ (pc9 : Nat), ∀ x ∈ c.exceptionTable.toList, covers x pc9 = false := fun _ x hx9 => (htab x hx9).elim
  subst hsz
  have hS : va_S (wA Z s.heap.size) s.heap s.heap [] := va_S.rf
  have hl := lv_entry ([.int p0, .ref (Z.2.2 12 i2)]) (n := 2) (Nat.le_of_ble_eq_true rfl)
  have hen : entryFrame m args 2 = entryFrame m ([.int p0, .ref (Z.2.2 12 i2)] : List Value).toArray 2 := by rw [hargs]
  rw [hen, lg_entry_eq]
  generalize (lg_sl ([.int p0, .ref (Z.2.2 12 i2)]) ++ List.replicate (2 - (lg_sl ([.int p0, .ref (Z.2.2 12 i2)])).length) Slot.unset).toArray = ls at hl ⊢
  have hl : lv_has ls 2 [(0, .int p0), (1, .ref (Z.2.2 12 i2))] := hl
  have hk := hf
  unfold f_X6_isOpenToVoteOf at hk
  refine lv_aload_n hx hb dX6_isOpenToVoteOf_0 rfl (lv_at hl 1 rfl) ?_
  refine gf_RX6_223 hx hb hts hown hK hP hi2 dX6_isOpenToVoteOf_1 ?_
  refine lv_iload_n hx hb dX6_isOpenToVoteOf_4 rfl (lv_at hl 0 rfl) ?_
  refine lv_icmp_eq (tgt := 28) hx hb dX6_isOpenToVoteOf_5 (by decide) (fun cz1 => ?_) (fun cz1 => ?_)
  · have hk := it_t cz1 hk
    refine lv_iconst (v := (0 : Int32)) hx hb dX6_isOpenToVoteOf_28 (by decide) ?_
    cases (show some _ = some _ from hk)
    exact we_z hx hb hr hlocks (show okz (0 : Int32) by unfold okz; decide).1 hP rfl hS dX6_isOpenToVoteOf_29 (by decide) (by decide)
  · have hk := it_f cz1 hk
    refine lv_aload_n hx hb dX6_isOpenToVoteOf_8 rfl (lv_at hl 1 rfl) ?_
    refine gf_RX6_252 hx hb hts hown hK hP hi2 dX6_isOpenToVoteOf_9 ?_
    refine lv_if_eq (tgt := 28) hx hb dX6_isOpenToVoteOf_12 (by decide) (fun cz2 => ?_) (fun cz2 => ?_)
    · have hk := it_t cz2 hk
      refine lv_iconst (v := (0 : Int32)) hx hb dX6_isOpenToVoteOf_28 (by decide) ?_
      cases (show some _ = some _ from hk)
      exact we_z hx hb hr hlocks (show okz (0 : Int32) by unfold okz; decide).1 hP rfl hS dX6_isOpenToVoteOf_29 (by decide) (by decide)
    · have hk := it_f cz2 hk
      refine lv_aload_n hx hb dX6_isOpenToVoteOf_15 rfl (lv_at hl 1 rfl) ?_
      refine gf_RX6_238 hx hb hts hown hK hP hi2 dX6_isOpenToVoteOf_16 ?_
      refine lv_bipush (v := (102 : Int32)) hx hb dX6_isOpenToVoteOf_19 (by decide) ?_
      refine lv_icmp_eq (tgt := 28) hx hb dX6_isOpenToVoteOf_21 (by decide) (fun cz3 => ?_) (fun cz3 => ?_)
      · have hk := it_t cz3 hk
        refine lv_iconst (v := (0 : Int32)) hx hb dX6_isOpenToVoteOf_28 (by decide) ?_
        cases (show some _ = some _ from hk)
        exact we_z hx hb hr hlocks (show okz (0 : Int32) by unfold okz; decide).1 hP rfl hS dX6_isOpenToVoteOf_29 (by decide) (by decide)
      · have hk := it_f cz3 hk
        refine lv_iconst (v := (1 : Int32)) hx hb dX6_isOpenToVoteOf_24 (by decide) ?_
        refine lv_goto (tgt := 29) hx hb dX6_isOpenToVoteOf_25 (by decide) ?_
        cases (show some _ = some _ from hk)
        exact we_z hx hb hr hlocks (show okz (1 : Int32) by unfold okz; decide).1 hP rfl hS dX6_isOpenToVoteOf_29 (by decide) (by decide)
set_option maxHeartbeats 4000000 in
set_option maxRecDepth 100000 in
theorem k_X6_takeNone (l : Launch) (hfl : l.stackTraces = false) (Z : ZT) (hZ : wD Z) (X M O : SS) (Xz : SS) (r : Unit) (hf : f_X6_takeNone X = some (Xz, r)) (sz : Nat) : vx_Met l yX6_takeNone ws_X6_takeNone rm_X6_takeNone (va_Pc [.ref (Z.2.2 0 0)] (cP Z (X, M, O) sz)) (cQv Z (Xz, M, O) (.inl ()) sz) (cX Z (Xz, M, O) (.inl () : Unit ⊕ String) sz) 0 0 (wA Z sz) := by
  refine vx_ofW (cc := cX6_takeNone) (maxL := 2) (ret := none) (by decide) rfl ?_
  intro p e s m args below meth c s₁ B hml htab hv
  obtain ⟨hargs, hsz, hE, hP, hK⟩ := hv
  have hx := B.exec
  have hb := B.bytes
  have hr := B.returns
  have hts0 := atoms_spec (ws := ws_X6_takeNone) B.pre
  have hts : ∀ w ∈ lw_all, w.before args s = true := fun w h => hts0 w (List.mem_cons_of_mem _ h)
  have hown : s.vm.findClass RX6 = some m.cls := findClass_of_methodNamed B.named
  have hlocks := B.notSynchronized
  have hout9 : ∀ (pc9 : Nat), ∀ x ∈ c.exceptionTable.toList, covers x pc9 = false := fun _ x hx9 => (htab x hx9).elim
  subst hsz
  have hS : va_S (wA Z s.heap.size) s.heap s.heap [] := va_S.rf
  have hl := lv_entry ([.ref (Z.2.2 0 0)]) (n := 2) (Nat.le_of_ble_eq_true rfl)
  have hen : entryFrame m args 2 = entryFrame m ([.ref (Z.2.2 0 0)] : List Value).toArray 2 := by rw [hargs]
  rw [hen, lg_entry_eq]
  generalize (lg_sl ([.ref (Z.2.2 0 0)]) ++ List.replicate (2 - (lg_sl ([.ref (Z.2.2 0 0)])).length) Slot.unset).toArray = ls at hl ⊢
  have hl : lv_has ls 2 [(0, .ref (Z.2.2 0 0))] := hl
  have hk := hf
  unfold f_X6_takeNone at hk
  refine lv_iconst (v := (0 : Int32)) hx hb dX6_takeNone_0 (by decide) ?_
  refine lv_istore_n (lv' := [(1, .int (0 : Int32)), (0, .ref (Z.2.2 0 0))]) hx hb dX6_takeNone_1 rfl hl (by decide) rfl (fun ls hl => ?_)
  obtain ⟨k1, hk1, hk⟩ := gn hk
  have ex1 : ∀ (X2 : SS) (H : Heap) (locs : List Loc) (ls : Array Slot), k1 X2 = some (Xz, r) → wP Z (X2, M, O) H → va_S (wA Z s.heap.size) s.heap H locs → lv_has ls 2 [] → W p l e (headSpec ws_X6_takeNone rm_X6_takeNone).room s m args below meth c H locs 0 0 (vx_MQ below (cQv Z (Xz, M, O) (.inl ()) s.heap.size) (cX Z (Xz, M, O) (.inl () : Unit ⊕ String) s.heap.size) args s 0 0 (wA Z s.heap.size)) (F0 m 21 ls []) := by
    intro X2 H locs ls hk hP hS hl
    subst hk1
    cases (show some _ = some _ from hk)
    exact we_v hx hb hr hlocks hP rfl hS dX6_takeNone_21 (by decide) (by decide)
  have lp1 : ∀ (n : Nat) (v3 : Int32) (X4 : SS) (H : Heap) (locs : List Loc) (ls : Array Slot), f_X6_takeNone_L2  n v3 X4 k1 = some (Xz, r) → wP Z (X4, M, O) H → va_S (wA Z s.heap.size) s.heap H locs → lv_has ls 2 [(1, .int v3), (0, .ref (Z.2.2 0 0))] → W p l e (headSpec ws_X6_takeNone rm_X6_takeNone).room s m args below meth c H locs 0 0 (vx_MQ below (cQv Z (Xz, M, O) (.inl ()) s.heap.size) (cX Z (Xz, M, O) (.inl () : Unit ⊕ String) s.heap.size) args s 0 0 (wA Z s.heap.size)) (F0 m 2 ls []) := by
    intro n
    induction n with
    | zero =>
      intro v3 X4 H locs ls hk
      rw [f_X6_takeNone_L2] at hk
      exact nomatch (show none = some _ from hk)
    | succ n ih =>
      intro v3 X4 H locs ls hk hP hS hl
      rw [f_X6_takeNone_L2] at hk
      refine lv_iload_n hx hb dX6_takeNone_2 rfl (lv_at hl 0 rfl) ?_
      refine lv_bipush (v := (8 : Int32)) hx hb dX6_takeNone_3 (by decide) ?_
      refine lv_icmp_ge (tgt := 21) hx hb dX6_takeNone_5 (by decide) (fun cz5 => ?_) (fun cz5 => ?_)
      · have hk := it_t cz5 hk
        exact ex1 X4 _ _ _ hk hP hS (lv_sub hl [] rfl)
      · have hk := it_f cz5 hk
        refine lv_aload_n hx hb dX6_takeNone_8 rfl (lv_at hl 1 rfl) ?_
        refine gf_RX6_45 hx hb hts hown hK hP (by decide) dX6_takeNone_9 ?_
        refine lv_iload_n hx hb dX6_takeNone_12 rfl (lv_at hl 0 rfl) ?_
        refine lv_iconst (v := ((-1) : Int32)) hx hb dX6_takeNone_13 (by decide) ?_
        obtain ⟨hg6, hk⟩ := gd_s hk
        obtain ⟨X7, eX7, hk⟩ := lq_s hk
        refine wa_iastore_25 hx hb hZ hK hP hS (by decide) hg6 dX6_takeNone_14 (fun H locs hP hS => ?_)
        rw [← eX7] at hP
        refine lv_iinc (v := (v3 + (1 : Int32))) (lv' := [(1, .int (v3 + (1 : Int32))), (0, .ref (Z.2.2 0 0))]) hx hb dX6_takeNone_15 hl (k := 0) rfl rfl (by decide) rfl (fun ls hl => ?_)
        refine lv_goto (tgt := 2) hx hb dX6_takeNone_18 (by decide) ?_
        exact ih (v3 + (1 : Int32)) X7 _ _ _ hk hP hS (lv_sub hl [0, 1] rfl)
  exact lp1 1000 (0 : Int32) X _ _ _ hk hP hS (lv_sub hl [0, 1] rfl)
set_option maxHeartbeats 4000000 in
set_option maxRecDepth 100000 in
theorem k_X6_takeWorks (l : Launch) (hfl : l.stackTraces = false) (Z : ZT) (hZ : wD Z) (X M O : SS) (p0 : Int32) (Xz : SS) (r : Unit) (hf : f_X6_takeWorks X p0 = some (Xz, r)) (sz : Nat) : vx_Met l yX6_takeWorks ws_X6_takeWorks rm_X6_takeWorks (va_Pc [.ref (Z.2.2 0 0), .int p0] (cP Z (X, M, O) sz)) (cQv Z (Xz, M, O) (.inl ()) sz) (cX Z (Xz, M, O) (.inl () : Unit ⊕ String) sz) 0 0 (wA Z sz) := by
  refine vx_ofW (cc := cX6_takeWorks) (maxL := 5) (ret := none) (by decide) rfl ?_
  intro p e s m args below meth c s₁ B hml htab hv
  obtain ⟨hargs, hsz, hE, hP, hK⟩ := hv
  have hx := B.exec
  have hb := B.bytes
  have hr := B.returns
  have hts0 := atoms_spec (ws := ws_X6_takeWorks) B.pre
  have hts : ∀ w ∈ lw_all, w.before args s = true := fun w h => hts0 w (List.mem_cons_of_mem _ h)
  have hown : s.vm.findClass RX6 = some m.cls := findClass_of_methodNamed B.named
  have hlocks := B.notSynchronized
  have hout9 : ∀ (pc9 : Nat), ∀ x ∈ c.exceptionTable.toList, covers x pc9 = false := fun _ x hx9 => (htab x hx9).elim
  subst hsz
  have hS : va_S (wA Z s.heap.size) s.heap s.heap [] := va_S.rf
  have hl := lv_entry ([.ref (Z.2.2 0 0), .int p0]) (n := 5) (Nat.le_of_ble_eq_true rfl)
  have hen : entryFrame m args 5 = entryFrame m ([.ref (Z.2.2 0 0), .int p0] : List Value).toArray 5 := by rw [hargs]
  rw [hen, lg_entry_eq]
  generalize (lg_sl ([.ref (Z.2.2 0 0), .int p0]) ++ List.replicate (5 - (lg_sl ([.ref (Z.2.2 0 0), .int p0])).length) Slot.unset).toArray = ls at hl ⊢
  have hl : lv_has ls 5 [(0, .ref (Z.2.2 0 0)), (1, .int p0)] := hl
  have hk := hf
  unfold f_X6_takeWorks at hk
  refine lv_aload_n hx hb dX6_takeWorks_0 rfl (lv_at hl 0 rfl) ?_
  obtain ⟨X2, v1, hf3, hk⟩ := b1_s hk
  refine wc_vV0 (rest := []) (As := []) ⟨hx, hb, hml, hown, hts⟩ (fun sz => k_X6_takeNone l hfl Z hZ X M O X2 v1 hf3 sz) (cw_RX6_454 (args := args) (s := s) hts (Nat.le_of_ble_eq_true rfl) (Nat.le_of_ble_eq_true rfl)) hE hP hK hS (rv_0 hK hP (by decide)) rfl hl.1 rfl (Nat.le_of_ble_eq_true rfl) dX6_takeWorks_1 ⟨Nat.le_of_ble_eq_true rfl, Nat.le_of_ble_eq_true rfl⟩ (fun H locs hP hS => ?_)
  refine lv_iconst (v := (0 : Int32)) hx hb dX6_takeWorks_4 (by decide) ?_
  refine lv_istore_n (lv' := [(2, .int (0 : Int32)), (0, .ref (Z.2.2 0 0)), (1, .int p0)]) hx hb dX6_takeWorks_5 rfl hl (by decide) rfl (fun ls hl => ?_)
  obtain ⟨k4, hk4, hk⟩ := gn hk
  have ex4 : ∀ (X5 : SS) (H : Heap) (locs : List Loc) (ls : Array Slot), k4 X5 = some (Xz, r) → wP Z (X5, M, O) H → va_S (wA Z s.heap.size) s.heap H locs → lv_has ls 5 [] → W p l e (headSpec ws_X6_takeWorks rm_X6_takeWorks).room s m args below meth c H locs 0 0 (vx_MQ below (cQv Z (Xz, M, O) (.inl ()) s.heap.size) (cX Z (Xz, M, O) (.inl () : Unit ⊕ String) s.heap.size) args s 0 0 (wA Z s.heap.size)) (F0 m 83 ls []) := by
    intro X5 H locs ls hk hP hS hl
    subst hk4
    cases (show some _ = some _ from hk)
    exact we_v hx hb hr hlocks hP rfl hS dX6_takeWorks_83 (by decide) (by decide)
  have lp4 : ∀ (n : Nat) (v6 : Int32) (X7 : SS) (H : Heap) (locs : List Loc) (ls : Array Slot), f_X6_takeWorks_L6 p0 n v6 X7 k4 = some (Xz, r) → wP Z (X7, M, O) H → va_S (wA Z s.heap.size) s.heap H locs → lv_has ls 5 [(2, .int v6), (0, .ref (Z.2.2 0 0)), (1, .int p0)] → W p l e (headSpec ws_X6_takeWorks rm_X6_takeWorks).room s m args below meth c H locs 0 0 (vx_MQ below (cQv Z (Xz, M, O) (.inl ()) s.heap.size) (cX Z (Xz, M, O) (.inl () : Unit ⊕ String) s.heap.size) args s 0 0 (wA Z s.heap.size)) (F0 m 6 ls []) := by
    intro n
    induction n with
    | zero =>
      intro v6 X7 H locs ls hk
      rw [f_X6_takeWorks_L6] at hk
      exact nomatch (show none = some _ from hk)
    | succ n ih =>
      intro v6 X7 H locs ls hk hP hS hl
      rw [f_X6_takeWorks_L6] at hk
      refine lv_iload_n hx hb dX6_takeWorks_6 rfl (lv_at hl 0 rfl) ?_
      refine lv_aload_n hx hb dX6_takeWorks_7 rfl (lv_at hl 1 rfl) ?_
      refine gf_RX6_65 hx hb hts hown hK hP (by decide) dX6_takeWorks_8 ?_
      refine lv_icmp_ge (tgt := 83) hx hb dX6_takeWorks_11 (by decide) (fun cz8 => ?_) (fun cz8 => ?_)
      · have hk := it_t cz8 hk
        exact ex4 X7 _ _ _ hk hP hS (lv_sub hl [] rfl)
      · have hk := it_f cz8 hk
        refine lv_aload_n hx hb dX6_takeWorks_14 rfl (lv_at hl 1 rfl) ?_
        refine gf_RX6_37 hx hb hts hown hK hP (by decide) dX6_takeWorks_15 ?_
        refine lv_iload_n hx hb dX6_takeWorks_18 rfl (lv_at hl 0 rfl) ?_
        obtain ⟨hg9, hk⟩ := gd_s hk
        refine wa_aaload_23 hx hb hK hP (by decide) hg9 dX6_takeWorks_19 ?_
        refine lv_astore_n (lv' := [(3, .ref (Z.2.2 12 (v6).toNatClampNeg)), (2, .int v6), (0, .ref (Z.2.2 0 0)), (1, .int p0)]) hx hb dX6_takeWorks_20 rfl hl (by decide) rfl (fun ls hl => ?_)
        refine lv_aload_n hx hb dX6_takeWorks_21 rfl (lv_at hl 0 rfl) ?_
        refine gf_RX6_223 hx hb hts hown hK hP (vp_lt hg9) dX6_takeWorks_22 ?_
        refine lv_iload_n hx hb dX6_takeWorks_25 rfl (lv_at hl 3 rfl) ?_
        refine lv_icmp_ne (tgt := 77) hx hb dX6_takeWorks_26 (by decide) (fun cz10 => ?_) (fun cz10 => ?_)
        · have hk := it_f cz10 hk
          refine lv_iinc (v := (v6 + (1 : Int32))) (lv' := [(2, .int (v6 + (1 : Int32))), (3, .ref (Z.2.2 12 (v6).toNatClampNeg)), (0, .ref (Z.2.2 0 0)), (1, .int p0)]) hx hb dX6_takeWorks_77 hl (k := 1) rfl rfl (by decide) rfl (fun ls hl => ?_)
          refine lv_goto (tgt := 6) hx hb dX6_takeWorks_80 (by decide) ?_
          exact ih (v6 + (1 : Int32)) X7 _ _ _ hk hP hS (lv_sub hl [0, 2, 3] rfl)
        · have hk := it_t cz10 hk
          refine lv_aload_n hx hb dX6_takeWorks_29 rfl (lv_at hl 0 rfl) ?_
          obtain ⟨v11, hf12, hk⟩ := b0_s hk
          refine wc_iV0 (rest := []) (As := []) ⟨hx, hb, hml, hown, hts⟩ (fun sz => k_X5_isCounted l hfl Z hZ X7 M O (v6).toNatClampNeg (vp_lt hg9) v11 hf12 sz) (cw_RX6_390 (args := args) (s := s) hts (Nat.le_of_ble_eq_true rfl) (Nat.le_of_ble_eq_true rfl)) hE hP hK hS (rv_12 hK hP (vp_lt hg9)) rfl hl.1 rfl (Nat.le_of_ble_eq_true rfl) dX6_takeWorks_30 ⟨Nat.le_of_ble_eq_true rfl, Nat.le_of_ble_eq_true rfl⟩ (fun H locs hP hS => ?_)
          refine lv_if_eq (tgt := 77) hx hb dX6_takeWorks_33 (by decide) (fun cz13 => ?_) (fun cz13 => ?_)
          · have hk := it_t cz13 hk
            refine lv_iinc (v := (v6 + (1 : Int32))) (lv' := [(2, .int (v6 + (1 : Int32))), (3, .ref (Z.2.2 12 (v6).toNatClampNeg)), (0, .ref (Z.2.2 0 0)), (1, .int p0)]) hx hb dX6_takeWorks_77 hl (k := 1) rfl rfl (by decide) rfl (fun ls hl => ?_)
            refine lv_goto (tgt := 6) hx hb dX6_takeWorks_80 (by decide) ?_
            exact ih (v6 + (1 : Int32)) X7 _ _ _ hk hP hS (lv_sub hl [0, 2, 3] rfl)
          · have hk := it_f cz13 hk
            refine lv_aload_n hx hb dX6_takeWorks_36 rfl (lv_at hl 2 rfl) ?_
            refine gf_RX6_45 hx hb hts hown hK hP (by decide) dX6_takeWorks_37 ?_
            refine lv_aload_n hx hb dX6_takeWorks_40 rfl (lv_at hl 0 rfl) ?_
            refine gf_RX6_226 hx hb hts hown hK hP (vp_lt hg9) dX6_takeWorks_41 ?_
            obtain ⟨hg14, hk⟩ := gd_s hk
            refine wa_iaload_25 hx hb hK hP (by decide) hg14 dX6_takeWorks_44 ?_
            obtain ⟨v15, ev15, hk⟩ := lq_s hk
            refine W.eq (g2 := F0 m 45 ls [.int v15]) (by rw [ev15]) ?_
            refine lv_istore (lv' := [(4, .int v15), (3, .ref (Z.2.2 12 (v6).toNatClampNeg)), (2, .int v6), (0, .ref (Z.2.2 0 0)), (1, .int p0)]) hx hb dX6_takeWorks_45 hl (by decide) rfl (fun ls hl => ?_)
            refine lv_iload hx hb dX6_takeWorks_47 (lv_at hl 0 rfl) ?_
            refine lv_iconst (v := ((-1) : Int32)) hx hb dX6_takeWorks_49 (by decide) ?_
            refine lv_icmp_eq (tgt := 67) hx hb dX6_takeWorks_50 (by decide) (fun cz16 => ?_) (fun cz16 => ?_)
            · have hk := it_t cz16 hk
              refine lv_aload_n hx hb dX6_takeWorks_67 rfl (lv_at hl 3 rfl) ?_
              refine gf_RX6_45 hx hb hts hown hK hP (by decide) dX6_takeWorks_68 ?_
              refine lv_aload_n hx hb dX6_takeWorks_71 rfl (lv_at hl 1 rfl) ?_
              refine gf_RX6_226 hx hb hts hown hK hP (vp_lt hg9) dX6_takeWorks_72 ?_
              refine lv_iload_n hx hb dX6_takeWorks_75 rfl (lv_at hl 2 rfl) ?_
              obtain ⟨hg17, hk⟩ := gd_s hk
              obtain ⟨X18, eX18, hk⟩ := lq_s hk
              refine wa_iastore_25 hx hb hZ hK hP hS (by decide) hg17 dX6_takeWorks_76 (fun H locs hP hS => ?_)
              rw [← eX18] at hP
              refine lv_iinc (v := (v6 + (1 : Int32))) (lv' := [(2, .int (v6 + (1 : Int32))), (4, .int v15), (3, .ref (Z.2.2 12 (v6).toNatClampNeg)), (0, .ref (Z.2.2 0 0)), (1, .int p0)]) hx hb dX6_takeWorks_77 hl (k := 2) rfl rfl (by decide) rfl (fun ls hl => ?_)
              refine lv_goto (tgt := 6) hx hb dX6_takeWorks_80 (by decide) ?_
              exact ih (v6 + (1 : Int32)) X18 _ _ _ hk hP hS (lv_sub hl [0, 3, 4] rfl)
            · have hk := it_f cz16 hk
              refine lv_aload_n hx hb dX6_takeWorks_53 rfl (lv_at hl 1 rfl) ?_
              refine lv_aload_n hx hb dX6_takeWorks_54 rfl (lv_at hl 3 rfl) ?_
              refine gf_RX6_37 hx hb hts hown hK hP (by decide) dX6_takeWorks_55 ?_
              refine lv_iload hx hb dX6_takeWorks_58 (lv_at hl 0 rfl) ?_
              obtain ⟨hg19, hk⟩ := gd_s hk
              refine wa_aaload_23 hx hb hK hP (by decide) hg19 dX6_takeWorks_60 ?_
              obtain ⟨v20, hf21, hk⟩ := b0_s hk
              refine wc_iV0 (rest := []) (As := [.ref (Z.2.2 12 (v15).toNatClampNeg)]) ⟨hx, hb, hml, hown, hts⟩ (fun sz => k_X5_hasGreaterStyleThan l hfl Z hZ X7 M O (v6).toNatClampNeg (v15).toNatClampNeg (vp_lt hg9) (vp_lt hg19) v20 hf21 sz) (cw_RX6_457 (args := args) (s := s) hts (Nat.le_of_ble_eq_true rfl) (Nat.le_of_ble_eq_true rfl)) hE hP hK hS (rv_12 hK hP (vp_lt hg9)) rfl hl.1 rfl (Nat.le_of_ble_eq_true rfl) dX6_takeWorks_61 ⟨Nat.le_of_ble_eq_true rfl, Nat.le_of_ble_eq_true rfl⟩ (fun H locs hP hS => ?_)
              refine lv_if_eq (tgt := 77) hx hb dX6_takeWorks_64 (by decide) (fun cz22 => ?_) (fun cz22 => ?_)
              · have hk := it_t cz22 hk
                refine lv_iinc (v := (v6 + (1 : Int32))) (lv' := [(2, .int (v6 + (1 : Int32))), (4, .int v15), (3, .ref (Z.2.2 12 (v6).toNatClampNeg)), (0, .ref (Z.2.2 0 0)), (1, .int p0)]) hx hb dX6_takeWorks_77 hl (k := 2) rfl rfl (by decide) rfl (fun ls hl => ?_)
                refine lv_goto (tgt := 6) hx hb dX6_takeWorks_80 (by decide) ?_
                exact ih (v6 + (1 : Int32)) X7 _ _ _ hk hP hS (lv_sub hl [0, 3, 4] rfl)
              · have hk := it_f cz22 hk
                refine lv_aload_n hx hb dX6_takeWorks_67 rfl (lv_at hl 3 rfl) ?_
                refine gf_RX6_45 hx hb hts hown hK hP (by decide) dX6_takeWorks_68 ?_
                refine lv_aload_n hx hb dX6_takeWorks_71 rfl (lv_at hl 1 rfl) ?_
                refine gf_RX6_226 hx hb hts hown hK hP (vp_lt hg9) dX6_takeWorks_72 ?_
                refine lv_iload_n hx hb dX6_takeWorks_75 rfl (lv_at hl 2 rfl) ?_
                obtain ⟨hg23, hk⟩ := gd_s hk
                obtain ⟨X24, eX24, hk⟩ := lq_s hk
                refine wa_iastore_25 hx hb hZ hK hP hS (by decide) hg23 dX6_takeWorks_76 (fun H locs hP hS => ?_)
                rw [← eX24] at hP
                refine lv_iinc (v := (v6 + (1 : Int32))) (lv' := [(2, .int (v6 + (1 : Int32))), (4, .int v15), (3, .ref (Z.2.2 12 (v6).toNatClampNeg)), (0, .ref (Z.2.2 0 0)), (1, .int p0)]) hx hb dX6_takeWorks_77 hl (k := 2) rfl rfl (by decide) rfl (fun ls hl => ?_)
                refine lv_goto (tgt := 6) hx hb dX6_takeWorks_80 (by decide) ?_
                exact ih (v6 + (1 : Int32)) X24 _ _ _ hk hP hS (lv_sub hl [0, 3, 4] rfl)
  exact lp4 1000 (0 : Int32) X2 _ _ _ hk hP hS (lv_sub hl [0, 1, 2] rfl)
set_option maxHeartbeats 4000000 in
set_option maxRecDepth 100000 in
theorem k_X6_takenPoints (l : Launch) (hfl : l.stackTraces = false) (Z : ZT) (hZ : wD Z) (X M O : SS) (r : UInt32) (hf : f_X6_takenPoints X = some (r)) (sz : Nat) : vx_Met l yX6_takenPoints ws_X6_takenPoints rm_X6_takenPoints (va_Pc [.ref (Z.2.2 0 0)] (cP Z (X, M, O) sz)) (cQf Z (X, M, O) (.inl r) sz) (cX Z (X, M, O) (.inl r : UInt32 ⊕ String) sz) 0 0 (wA Z sz) := by
  refine vx_ofW (cc := cX6_takenPoints) (maxL := 6) (ret := (some .float)) (by decide) rfl ?_
  intro p e s m args below meth c s₁ B hml htab hv
  obtain ⟨hargs, hsz, hE, hP, hK⟩ := hv
  have hx := B.exec
  have hb := B.bytes
  have hr := B.returns
  have hts0 := atoms_spec (ws := ws_X6_takenPoints) B.pre
  have hts : ∀ w ∈ lw_all, w.before args s = true := fun w h => hts0 w (List.mem_cons_of_mem _ h)
  have hown : s.vm.findClass RX6 = some m.cls := findClass_of_methodNamed B.named
  have hlocks := B.notSynchronized
  have hout9 : ∀ (pc9 : Nat), ∀ x ∈ c.exceptionTable.toList, covers x pc9 = false := fun _ x hx9 => (htab x hx9).elim
  subst hsz
  have hS : va_S (wA Z s.heap.size) s.heap s.heap [] := va_S.rf
  have hl := lv_entry ([.ref (Z.2.2 0 0)]) (n := 6) (Nat.le_of_ble_eq_true rfl)
  have hen : entryFrame m args 6 = entryFrame m ([.ref (Z.2.2 0 0)] : List Value).toArray 6 := by rw [hargs]
  rw [hen, lg_entry_eq]
  generalize (lg_sl ([.ref (Z.2.2 0 0)]) ++ List.replicate (6 - (lg_sl ([.ref (Z.2.2 0 0)])).length) Slot.unset).toArray = ls at hl ⊢
  have hl : lv_has ls 6 [(0, .ref (Z.2.2 0 0))] := hl
  have hk := hf
  unfold f_X6_takenPoints at hk
  refine lv_fconst0 hx hb dX6_takenPoints_0 ?_
  obtain ⟨v1, ev1, hk⟩ := lq_s hk
  refine W.eq (g2 := F0 m 1 ls [.float v1]) (by rw [ev1]) ?_
  refine lv_fstore_n (lv' := [(1, .float v1), (0, .ref (Z.2.2 0 0))]) hx hb dX6_takenPoints_1 rfl hl (by decide) rfl (fun ls hl => ?_)
  refine lv_iconst (v := (0 : Int32)) hx hb dX6_takenPoints_2 (by decide) ?_
  refine lv_istore_n (lv' := [(2, .int (0 : Int32)), (1, .float v1), (0, .ref (Z.2.2 0 0))]) hx hb dX6_takenPoints_3 rfl hl (by decide) rfl (fun ls hl => ?_)
  obtain ⟨k2, hk2, hk⟩ := gn hk
  have ex2 : ∀ (v3 : UInt32) (H : Heap) (locs : List Loc) (ls : Array Slot), k2 v3 = some (r) → wP Z (X, M, O) H → va_S (wA Z s.heap.size) s.heap H locs → lv_has ls 6 [(1, .float v3)] → W p l e (headSpec ws_X6_takenPoints rm_X6_takenPoints).room s m args below meth c H locs 0 0 (vx_MQ below (cQf Z (X, M, O) (.inl r) s.heap.size) (cX Z (X, M, O) (.inl r : UInt32 ⊕ String) s.heap.size) args s 0 0 (wA Z s.heap.size)) (F0 m 81 ls []) := by
    intro v3 H locs ls hk hP hS hl
    subst hk2
    refine lv_fload_n hx hb dX6_takenPoints_81 rfl (lv_at hl 0 rfl) ?_
    cases (show some _ = some _ from hk)
    exact we_f hx hb hr hlocks hP rfl hS dX6_takenPoints_82 (by decide) (by decide)
  have lp2 : ∀ (n : Nat) (v4 : Int32) (v5 : UInt32) (H : Heap) (locs : List Loc) (ls : Array Slot), f_X6_takenPoints_L4 X n v4 v5 k2 = some (r) → wP Z (X, M, O) H → va_S (wA Z s.heap.size) s.heap H locs → lv_has ls 6 [(2, .int v4), (1, .float v5), (0, .ref (Z.2.2 0 0))] → W p l e (headSpec ws_X6_takenPoints rm_X6_takenPoints).room s m args below meth c H locs 0 0 (vx_MQ below (cQf Z (X, M, O) (.inl r) s.heap.size) (cX Z (X, M, O) (.inl r : UInt32 ⊕ String) s.heap.size) args s 0 0 (wA Z s.heap.size)) (F0 m 4 ls []) := by
    intro n
    induction n with
    | zero =>
      intro v4 v5 H locs ls hk
      rw [f_X6_takenPoints_L4] at hk
      exact nomatch (show none = some _ from hk)
    | succ n ih =>
      intro v4 v5 H locs ls hk hP hS hl
      rw [f_X6_takenPoints_L4] at hk
      refine lv_iload_n hx hb dX6_takenPoints_4 rfl (lv_at hl 0 rfl) ?_
      refine lv_aload_n hx hb dX6_takenPoints_5 rfl (lv_at hl 2 rfl) ?_
      refine gf_RX6_58 hx hb hts hown hK hP (by decide) dX6_takenPoints_6 ?_
      refine lv_icmp_ge (tgt := 81) hx hb dX6_takenPoints_9 (by decide) (fun cz6 => ?_) (fun cz6 => ?_)
      · have hk := it_t cz6 hk
        exact ex2 v5 _ _ _ hk hP hS (lv_sub hl [1] rfl)
      · have hk := it_f cz6 hk
        refine lv_aload_n hx hb dX6_takenPoints_12 rfl (lv_at hl 2 rfl) ?_
        refine gf_RX6_45 hx hb hts hown hK hP (by decide) dX6_takenPoints_13 ?_
        refine lv_iload_n hx hb dX6_takenPoints_16 rfl (lv_at hl 0 rfl) ?_
        obtain ⟨hg7, hk⟩ := gd_s hk
        refine wa_iaload_25 hx hb hK hP (by decide) hg7 dX6_takenPoints_17 ?_
        obtain ⟨v8, ev8, hk⟩ := lq_s hk
        refine W.eq (g2 := F0 m 18 ls [.int v8]) (by rw [ev8]) ?_
        refine lv_istore_n (lv' := [(3, .int v8), (2, .int v4), (1, .float v5), (0, .ref (Z.2.2 0 0))]) hx hb dX6_takenPoints_18 rfl hl (by decide) rfl (fun ls hl => ?_)
        refine lv_iload_n hx hb dX6_takenPoints_19 rfl (lv_at hl 0 rfl) ?_
        refine lv_iconst (v := ((-1) : Int32)) hx hb dX6_takenPoints_20 (by decide) ?_
        refine lv_icmp_eq (tgt := 75) hx hb dX6_takenPoints_21 (by decide) (fun cz9 => ?_) (fun cz9 => ?_)
        · have hk := it_t cz9 hk
          refine lv_iinc (v := (v4 + (1 : Int32))) (lv' := [(2, .int (v4 + (1 : Int32))), (3, .int v8), (1, .float v5), (0, .ref (Z.2.2 0 0))]) hx hb dX6_takenPoints_75 hl (k := 1) rfl rfl (by decide) rfl (fun ls hl => ?_)
          refine lv_goto (tgt := 4) hx hb dX6_takenPoints_78 (by decide) ?_
          exact ih (v4 + (1 : Int32)) v5 _ _ _ hk hP hS (lv_sub hl [0, 2, 3] rfl)
        · have hk := it_f cz9 hk
          refine lv_aload_n hx hb dX6_takenPoints_24 rfl (lv_at hl 3 rfl) ?_
          refine gf_RX6_25 hx hb hts hown hK hP (by decide) dX6_takenPoints_25 ?_
          refine lv_iload_n hx hb dX6_takenPoints_28 rfl (lv_at hl 1 rfl) ?_
          obtain ⟨hg10, hk⟩ := gd_s hk
          refine wa_aaload_21 hx hb hK hP (by decide) hg10 dX6_takenPoints_29 ?_
          refine gf_RX6_139 hx hb hts hown hK hP (vp_lt hg10) dX6_takenPoints_30 ?_
          refine lv_aload_n hx hb dX6_takenPoints_33 rfl (lv_at hl 3 rfl) ?_
          refine gf_RX6_37 hx hb hts hown hK hP (by decide) dX6_takenPoints_34 ?_
          refine lv_iload_n hx hb dX6_takenPoints_37 rfl (lv_at hl 0 rfl) ?_
          obtain ⟨hg11, hk⟩ := gd_s hk
          refine wa_aaload_23 hx hb hK hP (by decide) hg11 dX6_takenPoints_38 ?_
          obtain ⟨v12, hf13, hk⟩ := b0_s hk
          refine wc_iV0 (rest := [.int (X.1 7 (v4).toNatClampNeg 2)]) (As := []) ⟨hx, hb, hml, hown, hts⟩ (fun sz => k_X5_styleAbove l hfl Z hZ X M O (v8).toNatClampNeg (vp_lt hg11) v12 hf13 sz) (cw_RX6_302 (args := args) (s := s) hts (Nat.le_of_ble_eq_true rfl) (Nat.le_of_ble_eq_true rfl)) hE hP hK hS (rv_12 hK hP (vp_lt hg11)) rfl hl.1 rfl (Nat.le_of_ble_eq_true rfl) dX6_takenPoints_39 ⟨Nat.le_of_ble_eq_true rfl, Nat.le_of_ble_eq_true rfl⟩ (fun H locs hP hS => ?_)
          refine lv_imul hx hb dX6_takenPoints_42 ?_
          obtain ⟨v14, ev14, hk⟩ := lq_s hk
          refine W.eq (g2 := F0 m 43 ls [.int v14]) (by rw [ev14]) ?_
          refine lv_istore (lv' := [(4, .int v14), (3, .int v8), (2, .int v4), (1, .float v5), (0, .ref (Z.2.2 0 0))]) hx hb dX6_takenPoints_43 hl (by decide) rfl (fun ls hl => ?_)
          refine lv_aload_n hx hb dX6_takenPoints_45 rfl (lv_at hl 4 rfl) ?_
          refine gf_RX6_37 hx hb hts hown hK hP (by decide) dX6_takenPoints_46 ?_
          refine lv_iload_n hx hb dX6_takenPoints_49 rfl (lv_at hl 1 rfl) ?_
          obtain ⟨hg15, hk⟩ := gd_s hk
          refine wa_aaload_23 hx hb hK hP (by decide) hg15 dX6_takenPoints_50 ?_
          obtain ⟨v16, hf17, hk⟩ := b0_s hk
          refine wc_iV0 (rest := []) (As := []) ⟨hx, hb, hml, hown, hts⟩ (fun sz => k_X5_styleUnder l hfl Z hZ X M O (v8).toNatClampNeg (vp_lt hg15) v16 hf17 sz) (cw_RX6_305 (args := args) (s := s) hts (Nat.le_of_ble_eq_true rfl) (Nat.le_of_ble_eq_true rfl)) hE hP hK hS (rv_12 hK hP (vp_lt hg15)) rfl hl.1 rfl (Nat.le_of_ble_eq_true rfl) dX6_takenPoints_51 ⟨Nat.le_of_ble_eq_true rfl, Nat.le_of_ble_eq_true rfl⟩ (fun H locs hP hS => ?_)
          refine lv_istore (lv' := [(5, .int v16), (4, .int v14), (3, .int v8), (2, .int v4), (1, .float v5), (0, .ref (Z.2.2 0 0))]) hx hb dX6_takenPoints_54 hl (by decide) rfl (fun ls hl => ?_)
          refine lv_fload_n hx hb dX6_takenPoints_56 rfl (lv_at hl 4 rfl) ?_
          refine lv_iload hx hb dX6_takenPoints_57 (lv_at hl 0 rfl) ?_
          refine lv_if_ne (tgt := 66) hx hb dX6_takenPoints_59 (by decide) (fun cz18 => ?_) (fun cz18 => ?_)
          · have hk := it_f cz18 hk
            refine lv_iload hx hb dX6_takenPoints_66 (lv_at hl 1 rfl) ?_
            refine lv_i2f hx hb dX6_takenPoints_68 ?_
            refine lv_iload hx hb dX6_takenPoints_69 (lv_at hl 0 rfl) ?_
            refine lv_i2f hx hb dX6_takenPoints_71 ?_
            obtain ⟨hg19, hk⟩ := gd_s hk
            refine lv_fdiv hx hb dX6_takenPoints_72 hg19 ?_
            obtain ⟨hg20, hk⟩ := gd_s hk
            refine lv_fadd hx hb dX6_takenPoints_73 hg20 ?_
            obtain ⟨v21, ev21, hk⟩ := lq_s hk
            refine W.eq (g2 := F0 m 74 ls [.float v21]) (by rw [ev21]) ?_
            refine lv_fstore_n (lv' := [(1, .float v21), (5, .int v16), (4, .int v14), (3, .int v8), (2, .int v4), (0, .ref (Z.2.2 0 0))]) hx hb dX6_takenPoints_74 rfl hl (by decide) rfl (fun ls hl => ?_)
            refine lv_iinc (v := (v4 + (1 : Int32))) (lv' := [(2, .int (v4 + (1 : Int32))), (1, .float v21), (5, .int v16), (4, .int v14), (3, .int v8), (0, .ref (Z.2.2 0 0))]) hx hb dX6_takenPoints_75 hl (k := 4) rfl rfl (by decide) rfl (fun ls hl => ?_)
            refine lv_goto (tgt := 4) hx hb dX6_takenPoints_78 (by decide) ?_
            exact ih (v4 + (1 : Int32)) v21 _ _ _ hk hP hS (lv_sub hl [0, 1, 5] rfl)
          · have hk := it_t cz18 hk
            refine lv_fconst0 hx hb dX6_takenPoints_62 ?_
            refine lv_goto (tgt := 73) hx hb dX6_takenPoints_63 (by decide) ?_
            obtain ⟨hg22, hk⟩ := gd_s hk
            refine lv_fadd hx hb dX6_takenPoints_73 hg22 ?_
            obtain ⟨v23, ev23, hk⟩ := lq_s hk
            refine W.eq (g2 := F0 m 74 ls [.float v23]) (by rw [ev23]) ?_
            refine lv_fstore_n (lv' := [(1, .float v23), (5, .int v16), (4, .int v14), (3, .int v8), (2, .int v4), (0, .ref (Z.2.2 0 0))]) hx hb dX6_takenPoints_74 rfl hl (by decide) rfl (fun ls hl => ?_)
            refine lv_iinc (v := (v4 + (1 : Int32))) (lv' := [(2, .int (v4 + (1 : Int32))), (1, .float v23), (5, .int v16), (4, .int v14), (3, .int v8), (0, .ref (Z.2.2 0 0))]) hx hb dX6_takenPoints_75 hl (k := 4) rfl rfl (by decide) rfl (fun ls hl => ?_)
            refine lv_goto (tgt := 4) hx hb dX6_takenPoints_78 (by decide) ?_
            exact ih (v4 + (1 : Int32)) v23 _ _ _ hk hP hS (lv_sub hl [0, 1, 5] rfl)
  exact lp2 1000 (0 : Int32) v1 _ _ _ hk hP hS (lv_sub hl [0, 1, 2] rfl)
set_option maxHeartbeats 4000000 in
set_option maxRecDepth 100000 in
theorem k_X6_takenBelt (l : Launch) (hfl : l.stackTraces = false) (Z : ZT) (hZ : wD Z) (X M O : SS) (r : Int32) (hf : f_X6_takenBelt X = some (r)) (sz : Nat) : vx_Met l yX6_takenBelt ws_X6_takenBelt rm_X6_takenBelt (va_Pc [.ref (Z.2.2 0 0)] (cP Z (X, M, O) sz)) (cQi Z (X, M, O) (.inl r) sz) (cX Z (X, M, O) (.inl r : Int32 ⊕ String) sz) 0 0 (wA Z sz) := by
  refine vx_ofW (cc := cX6_takenBelt) (maxL := 5) (ret := (some .int)) (by decide) rfl ?_
  intro p e s m args below meth c s₁ B hml htab hv
  obtain ⟨hargs, hsz, hE, hP, hK⟩ := hv
  have hx := B.exec
  have hb := B.bytes
  have hr := B.returns
  have hts0 := atoms_spec (ws := ws_X6_takenBelt) B.pre
  have hts : ∀ w ∈ lw_all, w.before args s = true := fun w h => hts0 w (List.mem_cons_of_mem _ h)
  have hown : s.vm.findClass RX6 = some m.cls := findClass_of_methodNamed B.named
  have hlocks := B.notSynchronized
  have hout9 : ∀ (pc9 : Nat), ∀ x ∈ c.exceptionTable.toList, covers x pc9 = false := fun _ x hx9 => (htab x hx9).elim
  subst hsz
  have hS : va_S (wA Z s.heap.size) s.heap s.heap [] := va_S.rf
  have hl := lv_entry ([.ref (Z.2.2 0 0)]) (n := 5) (Nat.le_of_ble_eq_true rfl)
  have hen : entryFrame m args 5 = entryFrame m ([.ref (Z.2.2 0 0)] : List Value).toArray 5 := by rw [hargs]
  rw [hen, lg_entry_eq]
  generalize (lg_sl ([.ref (Z.2.2 0 0)]) ++ List.replicate (5 - (lg_sl ([.ref (Z.2.2 0 0)])).length) Slot.unset).toArray = ls at hl ⊢
  have hl : lv_has ls 5 [(0, .ref (Z.2.2 0 0))] := hl
  have hk := hf
  unfold f_X6_takenBelt at hk
  refine lv_iconst (v := (0 : Int32)) hx hb dX6_takenBelt_0 (by decide) ?_
  refine lv_istore_n (lv' := [(1, .int (0 : Int32)), (0, .ref (Z.2.2 0 0))]) hx hb dX6_takenBelt_1 rfl hl (by decide) rfl (fun ls hl => ?_)
  refine lv_iconst (v := (0 : Int32)) hx hb dX6_takenBelt_2 (by decide) ?_
  refine lv_istore_n (lv' := [(2, .int (0 : Int32)), (1, .int (0 : Int32)), (0, .ref (Z.2.2 0 0))]) hx hb dX6_takenBelt_3 rfl hl (by decide) rfl (fun ls hl => ?_)
  obtain ⟨k1, hk1, hk⟩ := gn hk
  have ex1 : ∀ (v2 : Int32) (H : Heap) (locs : List Loc) (ls : Array Slot), k1 v2 = some (r) → wP Z (X, M, O) H → va_S (wA Z s.heap.size) s.heap H locs → lv_has ls 5 [(1, .int v2), (0, .ref (Z.2.2 0 0))] → W p l e (headSpec ws_X6_takenBelt rm_X6_takenBelt).room s m args below meth c H locs 0 0 (vx_MQ below (cQi Z (X, M, O) (.inl r) s.heap.size) (cX Z (X, M, O) (.inl r : Int32 ⊕ String) s.heap.size) args s 0 0 (wA Z s.heap.size)) (F0 m 36 ls []) := by
    intro v2 H locs ls hk hP hS hl
    subst hk1
    refine lv_aload_n hx hb dX6_takenBelt_36 rfl (lv_at hl 1 rfl) ?_
    obtain ⟨v5, hf6, hk⟩ := b0_s hk
    refine wc_fV0 (rest := []) (As := []) ⟨hx, hb, hml, hown, hts⟩ (fun sz => k_X6_takenPoints l hfl Z hZ X M O v5 hf6 sz) (cw_RX6_447 (args := args) (s := s) hts (Nat.le_of_ble_eq_true rfl) (Nat.le_of_ble_eq_true rfl)) hE hP hK hS (rv_0 hK hP (by decide)) rfl hl.1 rfl (Nat.le_of_ble_eq_true rfl) dX6_takenBelt_37 ⟨Nat.le_of_ble_eq_true rfl, Nat.le_of_ble_eq_true rfl⟩ (fun H locs hP hS => ?_)
    refine lv_fstore_n (lv' := [(2, .float v5), (1, .int v2), (0, .ref (Z.2.2 0 0))]) hx hb dX6_takenBelt_40 rfl hl (by decide) rfl (fun ls hl => ?_)
    refine lv_iconst (v := (0 : Int32)) hx hb dX6_takenBelt_41 (by decide) ?_
    refine lv_istore_n (lv' := [(3, .int (0 : Int32)), (2, .float v5), (1, .int v2), (0, .ref (Z.2.2 0 0))]) hx hb dX6_takenBelt_42 rfl hl (by decide) rfl (fun ls hl => ?_)
    refine lv_iconst (v := (1 : Int32)) hx hb dX6_takenBelt_43 (by decide) ?_
    refine lv_istore (lv' := [(4, .int (1 : Int32)), (3, .int (0 : Int32)), (2, .float v5), (1, .int v2), (0, .ref (Z.2.2 0 0))]) hx hb dX6_takenBelt_44 hl (by decide) rfl (fun ls hl => ?_)
    obtain ⟨k7, hk7, hk⟩ := gn hk
    have ex7 : ∀ (v8 : Int32) (H : Heap) (locs : List Loc) (ls : Array Slot), k7 v8 = some (r) → wP Z (X, M, O) H → va_S (wA Z s.heap.size) s.heap H locs → lv_has ls 5 [(3, .int v8)] → W p l e (headSpec ws_X6_takenBelt rm_X6_takenBelt).room s m args below meth c H locs 0 0 (vx_MQ below (cQi Z (X, M, O) (.inl r) s.heap.size) (cX Z (X, M, O) (.inl r : Int32 ⊕ String) s.heap.size) args s 0 0 (wA Z s.heap.size)) (F0 m 82 ls []) := by
      intro v8 H locs ls hk hP hS hl
      subst hk7
      refine lv_iload_n hx hb dX6_takenBelt_82 rfl (lv_at hl 0 rfl) ?_
      cases (show some _ = some _ from hk)
      exact we_i hx hb hr hlocks hP rfl hS dX6_takenBelt_83 (by decide) (by decide)
    have lp7 : ∀ (n : Nat) (v9 : Int32) (v10 : Int32) (H : Heap) (locs : List Loc) (ls : Array Slot), f_X6_takenBelt_L46 v2 v5 n v9 v10 k7 = some (r) → wP Z (X, M, O) H → va_S (wA Z s.heap.size) s.heap H locs → lv_has ls 5 [(4, .int v9), (3, .int v10), (2, .float v5), (1, .int v2)] → W p l e (headSpec ws_X6_takenBelt rm_X6_takenBelt).room s m args below meth c H locs 0 0 (vx_MQ below (cQi Z (X, M, O) (.inl r) s.heap.size) (cX Z (X, M, O) (.inl r : Int32 ⊕ String) s.heap.size) args s 0 0 (wA Z s.heap.size)) (F0 m 46 ls []) := by
      intro n
      induction n with
      | zero =>
        intro v9 v10 H locs ls hk
        rw [f_X6_takenBelt_L46] at hk
        exact nomatch (show none = some _ from hk)
      | succ n ih =>
        intro v9 v10 H locs ls hk hP hS hl
        rw [f_X6_takenBelt_L46] at hk
        refine lv_iload hx hb dX6_takenBelt_46 (lv_at hl 0 rfl) ?_
        refine lv_iconst (v := (5 : Int32)) hx hb dX6_takenBelt_48 (by decide) ?_
        refine lv_icmp_gt (tgt := 82) hx hb dX6_takenBelt_49 (by decide) (fun cz11 => ?_) (fun cz11 => ?_)
        · have hk := it_t cz11 hk
          exact ex7 v10 _ _ _ hk hP hS (lv_sub hl [1] rfl)
        · have hk := it_f cz11 hk
          refine lv_iload_n hx hb dX6_takenBelt_52 rfl (lv_at hl 3 rfl) ?_
          refine lv_iload hx hb dX6_takenBelt_53 (lv_at hl 0 rfl) ?_
          refine lv_icmp_lt (tgt := 76) hx hb dX6_takenBelt_55 (by decide) (fun cz12 => ?_) (fun cz12 => ?_)
          · have hk := it_t cz12 hk
            refine lv_iinc (v := (v9 + (1 : Int32))) (lv' := [(4, .int (v9 + (1 : Int32))), (3, .int v10), (2, .float v5), (1, .int v2)]) hx hb dX6_takenBelt_76 hl (k := 0) rfl rfl (by decide) rfl (fun ls hl => ?_)
            refine lv_goto (tgt := 46) hx hb dX6_takenBelt_79 (by decide) ?_
            exact ih (v9 + (1 : Int32)) v10 _ _ _ hk hP hS (lv_sub hl [0, 1, 2, 3] rfl)
          · have hk := it_f cz12 hk
            refine lv_fload_n hx hb dX6_takenBelt_58 rfl (lv_at hl 2 rfl) ?_
            refine lv_iconst (v := (2 : Int32)) hx hb dX6_takenBelt_59 (by decide) ?_
            refine lv_iload hx hb dX6_takenBelt_60 (lv_at hl 0 rfl) ?_
            refine lv_imul hx hb dX6_takenBelt_62 ?_
            refine lv_iload hx hb dX6_takenBelt_63 (lv_at hl 0 rfl) ?_
            refine lv_iconst (v := (1 : Int32)) hx hb dX6_takenBelt_65 (by decide) ?_
            refine lv_iadd hx hb dX6_takenBelt_66 ?_
            refine lv_imul hx hb dX6_takenBelt_67 ?_
            refine lv_i2f hx hb dX6_takenBelt_68 ?_
            refine lv_fcmp hx hb dX6_takenBelt_69 ?_
            refine lv_if_lt (tgt := 76) hx hb dX6_takenBelt_70 (by decide) (fun cz13 => ?_) (fun cz13 => ?_)
            · have hk := it_t cz13 hk
              refine lv_iinc (v := (v9 + (1 : Int32))) (lv' := [(4, .int (v9 + (1 : Int32))), (3, .int v10), (2, .float v5), (1, .int v2)]) hx hb dX6_takenBelt_76 hl (k := 0) rfl rfl (by decide) rfl (fun ls hl => ?_)
              refine lv_goto (tgt := 46) hx hb dX6_takenBelt_79 (by decide) ?_
              exact ih (v9 + (1 : Int32)) v10 _ _ _ hk hP hS (lv_sub hl [0, 1, 2, 3] rfl)
            · have hk := it_f cz13 hk
              refine lv_iload hx hb dX6_takenBelt_73 (lv_at hl 0 rfl) ?_
              refine lv_istore_n (lv' := [(3, .int v9), (4, .int v9), (2, .float v5), (1, .int v2)]) hx hb dX6_takenBelt_75 rfl hl (by decide) rfl (fun ls hl => ?_)
              refine lv_iinc (v := (v9 + (1 : Int32))) (lv' := [(4, .int (v9 + (1 : Int32))), (3, .int v9), (2, .float v5), (1, .int v2)]) hx hb dX6_takenBelt_76 hl (k := 1) rfl rfl (by decide) rfl (fun ls hl => ?_)
              refine lv_goto (tgt := 46) hx hb dX6_takenBelt_79 (by decide) ?_
              exact ih (v9 + (1 : Int32)) v9 _ _ _ hk hP hS (lv_sub hl [0, 1, 2, 3] rfl)
    exact lp7 1000 (1 : Int32) (0 : Int32) _ _ _ hk hP hS (lv_sub hl [0, 1, 2, 3] rfl)
  have lp1 : ∀ (n : Nat) (v3 : Int32) (v4 : Int32) (H : Heap) (locs : List Loc) (ls : Array Slot), f_X6_takenBelt_L4 X n v3 v4 k1 = some (r) → wP Z (X, M, O) H → va_S (wA Z s.heap.size) s.heap H locs → lv_has ls 5 [(2, .int v3), (1, .int v4), (0, .ref (Z.2.2 0 0))] → W p l e (headSpec ws_X6_takenBelt rm_X6_takenBelt).room s m args below meth c H locs 0 0 (vx_MQ below (cQi Z (X, M, O) (.inl r) s.heap.size) (cX Z (X, M, O) (.inl r : Int32 ⊕ String) s.heap.size) args s 0 0 (wA Z s.heap.size)) (F0 m 4 ls []) := by
    intro n
    induction n with
    | zero =>
      intro v3 v4 H locs ls hk
      rw [f_X6_takenBelt_L4] at hk
      exact nomatch (show none = some _ from hk)
    | succ n ih =>
      intro v3 v4 H locs ls hk hP hS hl
      rw [f_X6_takenBelt_L4] at hk
      refine lv_iload_n hx hb dX6_takenBelt_4 rfl (lv_at hl 0 rfl) ?_
      refine lv_aload_n hx hb dX6_takenBelt_5 rfl (lv_at hl 2 rfl) ?_
      refine gf_RX6_58 hx hb hts hown hK hP (by decide) dX6_takenBelt_6 ?_
      refine lv_icmp_ge (tgt := 36) hx hb dX6_takenBelt_9 (by decide) (fun cz14 => ?_) (fun cz14 => ?_)
      · have hk := it_t cz14 hk
        exact ex1 v4 _ _ _ hk hP hS (lv_sub hl [1, 2] rfl)
      · have hk := it_f cz14 hk
        refine lv_iload_n hx hb dX6_takenBelt_12 rfl (lv_at hl 1 rfl) ?_
        refine lv_aload_n hx hb dX6_takenBelt_13 rfl (lv_at hl 2 rfl) ?_
        refine gf_RX6_45 hx hb hts hown hK hP (by decide) dX6_takenBelt_14 ?_
        refine lv_iload_n hx hb dX6_takenBelt_17 rfl (lv_at hl 0 rfl) ?_
        obtain ⟨hg15, hk⟩ := gd_s hk
        refine wa_iaload_25 hx hb hK hP (by decide) hg15 dX6_takenBelt_18 ?_
        refine lv_iconst (v := ((-1) : Int32)) hx hb dX6_takenBelt_19 (by decide) ?_
        refine lv_icmp_ne (tgt := 27) hx hb dX6_takenBelt_20 (by decide) (fun cz16 => ?_) (fun cz16 => ?_)
        · have hk := it_f cz16 hk
          refine lv_iconst (v := (1 : Int32)) hx hb dX6_takenBelt_27 (by decide) ?_
          refine lv_iadd hx hb dX6_takenBelt_28 ?_
          obtain ⟨v17, ev17, hk⟩ := lq_s hk
          refine W.eq (g2 := F0 m 29 ls [.int v17]) (by rw [ev17]) ?_
          refine lv_istore_n (lv' := [(1, .int v17), (2, .int v3), (0, .ref (Z.2.2 0 0))]) hx hb dX6_takenBelt_29 rfl hl (by decide) rfl (fun ls hl => ?_)
          refine lv_iinc (v := (v3 + (1 : Int32))) (lv' := [(2, .int (v3 + (1 : Int32))), (1, .int v17), (0, .ref (Z.2.2 0 0))]) hx hb dX6_takenBelt_30 hl (k := 1) rfl rfl (by decide) rfl (fun ls hl => ?_)
          refine lv_goto (tgt := 4) hx hb dX6_takenBelt_33 (by decide) ?_
          exact ih (v3 + (1 : Int32)) v17 _ _ _ hk hP hS (lv_sub hl [0, 1, 2] rfl)
        · have hk := it_t cz16 hk
          refine lv_iconst (v := (0 : Int32)) hx hb dX6_takenBelt_23 (by decide) ?_
          refine lv_goto (tgt := 28) hx hb dX6_takenBelt_24 (by decide) ?_
          refine lv_iadd hx hb dX6_takenBelt_28 ?_
          obtain ⟨v18, ev18, hk⟩ := lq_s hk
          refine W.eq (g2 := F0 m 29 ls [.int v18]) (by rw [ev18]) ?_
          refine lv_istore_n (lv' := [(1, .int v18), (2, .int v3), (0, .ref (Z.2.2 0 0))]) hx hb dX6_takenBelt_29 rfl hl (by decide) rfl (fun ls hl => ?_)
          refine lv_iinc (v := (v3 + (1 : Int32))) (lv' := [(2, .int (v3 + (1 : Int32))), (1, .int v18), (0, .ref (Z.2.2 0 0))]) hx hb dX6_takenBelt_30 hl (k := 1) rfl rfl (by decide) rfl (fun ls hl => ?_)
          refine lv_goto (tgt := 4) hx hb dX6_takenBelt_33 (by decide) ?_
          exact ih (v3 + (1 : Int32)) v18 _ _ _ hk hP hS (lv_sub hl [0, 1, 2] rfl)
  exact lp1 1000 (0 : Int32) (0 : Int32) _ _ _ hk hP hS (lv_sub hl [0, 1, 2] rfl)