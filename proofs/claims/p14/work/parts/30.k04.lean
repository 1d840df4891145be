set_option maxHeartbeats 4000000 in
set_option maxRecDepth 100000 in
theorem k_X6_beltOf (l : Launch) (hfl : l.stackTraces = false) (Z : ZT) (hZ : wD Z) (X M O : SS) (p0 : Int32) (Xz : SS) (r : Int32) (hf : f_X6_beltOf X p0 = some (Xz, r)) (sz : Nat) : vx_Met l yX6_beltOf ws_X6_beltOf rm_X6_beltOf (va_Pc [.ref (Z.2.2 0 0), .int p0] (cP Z (X, M, O) sz)) (cQi Z (Xz, M, O) (.inl r) sz) (cX Z (Xz, M, O) (.inl r : Int32 ⊕ String) sz) 0 0 (wA Z sz) := by
  refine vx_ofW (cc := cX6_beltOf) (maxL := 2) (ret := (some .int)) (by decide) rfl ?_
  intro p e s m args below meth c s₁ B hml htab hv
  obtain ⟨hargs, hsz, hE, hP, hK⟩ := hv
  have hx := B.exec
  have hb := B.bytes
  have hr := B.returns
  have hts0 := atoms_spec (ws := ws_X6_beltOf) B.pre
  have hts : ∀ w ∈ lw_all, w.before args s = true := fun w h => hts0 w (List.mem_cons_of_mem _ h)
  have hown : s.vm.findClass RX6 = some m.cls := findClass_of_methodNamed B.named
  have hlocks := B.notSynchronized
  have hout9 : ∀ (pc9 : Nat), ∀ x ∈ c.exceptionTable.toList, covers x pc9 = false := fun _ x hx9 => (htab x hx9).elim
  subst hsz
  have hS : va_S (wA Z s.heap.size) s.heap s.heap [] := va_S.rf
  have hl := lv_entry ([.ref (Z.2.2 0 0), .int p0]) (n := 2) (Nat.le_of_ble_eq_true rfl)
  have hen : entryFrame m args 2 = entryFrame m ([.ref (Z.2.2 0 0), .int p0] : List Value).toArray 2 := by rw [hargs]
  rw [hen, lg_entry_eq]
  generalize (lg_sl ([.ref (Z.2.2 0 0), .int p0]) ++ List.replicate (2 - (lg_sl ([.ref (Z.2.2 0 0), .int p0])).length) Slot.unset).toArray = ls at hl ⊢
  have hl : lv_has ls 2 [(0, .ref (Z.2.2 0 0)), (1, .int p0)] := hl
  have hk := hf
  unfold f_X6_beltOf at hk
  refine lv_aload_n hx hb dX6_beltOf_0 rfl (lv_at hl 0 rfl) ?_
  refine lv_iload_n hx hb dX6_beltOf_1 rfl (lv_at hl 1 rfl) ?_
  obtain ⟨X2, v1, hf3, hk⟩ := b1_s hk
  refine wc_vV0 (rest := []) (As := [.int p0]) ⟨hx, hb, hml, hown, hts⟩ (fun sz => k_X6_takeWorks l hfl Z hZ X M O p0 X2 v1 hf3 sz) (cw_RX6_321 (args := args) (s := s) hts (Nat.le_of_ble_eq_true rfl) (Nat.le_of_ble_eq_true rfl)) hE hP hK hS (rv_0 hK hP (by decide)) rfl hl.1 rfl (Nat.le_of_ble_eq_true rfl) dX6_beltOf_2 ⟨Nat.le_of_ble_eq_true rfl, Nat.le_of_ble_eq_true rfl⟩ (fun H locs hP hS => ?_)
  refine lv_aload_n hx hb dX6_beltOf_5 rfl (lv_at hl 0 rfl) ?_
  obtain ⟨v4, hf5, hk⟩ := b0_s hk
  refine wc_iV0 (rest := []) (As := []) ⟨hx, hb, hml, hown, hts⟩ (fun sz => k_X6_takenBelt l hfl Z hZ X2 M O v4 hf5 sz) (cw_RX6_451 (args := args) (s := s) hts (Nat.le_of_ble_eq_true rfl) (Nat.le_of_ble_eq_true rfl)) hE hP hK hS (rv_0 hK hP (by decide)) rfl hl.1 rfl (Nat.le_of_ble_eq_true rfl) dX6_beltOf_6 ⟨Nat.le_of_ble_eq_true rfl, Nat.le_of_ble_eq_true rfl⟩ (fun H locs hP hS => ?_)
  cases (show some _ = some _ from hk)
  exact we_i hx hb hr hlocks hP rfl hS dX6_beltOf_9 (by decide) (by decide)
set_option maxHeartbeats 4000000 in
set_option maxRecDepth 100000 in
theorem k_X6_vote (l : Launch) (hfl : l.stackTraces = false) (Z : ZT) (hZ : wD Z) (X M O : SS) (p0 : Int32) (p1 : Int32) (p2 : Int32) (Xz : SS) (o : Int32 ⊕ String) (hf : f_X6_vote X p0 p1 p2 = some (Xz, o)) (sz : Nat) : vx_Met l yX6_vote ws_X6_vote rm_X6_vote (va_Pc [.ref (Z.2.2 0 0), .int p0, .int p1, .int p2] (cP Z (X, M, O) sz)) (cQi Z (Xz, M, O) o sz) (cX Z (Xz, M, O) o sz) 3 18 (wA Z sz) := by
  refine vx_ofW (cc := cX6_vote) (maxL := 6) (ret := (some .int)) (by decide) rfl ?_
  intro p e s m args below meth c s₁ B hml htab hv
  obtain ⟨hargs, hsz, hE, hP, hK⟩ := hv
  have hx := B.exec
  have hb := B.bytes
  have hr := B.returns
  have hts0 := atoms_spec (ws := ws_X6_vote) B.pre
  have hts : ∀ w ∈ lw_all, w.before args s = true := fun w h => hts0 w (List.mem_cons_of_mem _ h)
  have hown : s.vm.findClass RX6 = some m.cls := findClass_of_methodNamed B.named
  have hlocks := B.notSynchronized
  have hout9 : ∀ (pc9 : Nat), ∀ x ∈ c.exceptionTable.toList, covers x pc9 = false := fun _ x hx9 => (htab x hx9).elim
  subst hsz
  have hS : va_S (wA Z s.heap.size) s.heap s.heap [] := va_S.rf
  have hl := lv_entry ([.ref (Z.2.2 0 0), .int p0, .int p1, .int p2]) (n := 6) (Nat.le_of_ble_eq_true rfl)
  have hen : entryFrame m args 6 = entryFrame m ([.ref (Z.2.2 0 0), .int p0, .int p1, .int p2] : List Value).toArray 6 := by rw [hargs]
  rw [hen, lg_entry_eq]
  generalize (lg_sl ([.ref (Z.2.2 0 0), .int p0, .int p1, .int p2]) ++ List.replicate (6 - (lg_sl ([.ref (Z.2.2 0 0), .int p0, .int p1, .int p2])).length) Slot.unset).toArray = ls at hl ⊢
  have hl : lv_has ls 6 [(0, .ref (Z.2.2 0 0)), (1, .int p0), (2, .int p1), (3, .int p2)] := hl
  have hk := hf
  unfold f_X6_vote at hk
  refine lv_aload_n hx hb dX6_vote_0 rfl (lv_at hl 0 rfl) ?_
  refine lv_iload_n hx hb dX6_vote_1 rfl (lv_at hl 1 rfl) ?_
  obtain ⟨o3, hf2, hn5, he6⟩ := e0_s hk
  refine wc_qV (kd := 9) (rest := []) (As := [.int p0]) ⟨hx, hb, hml, hown, hts⟩ (fun sz => k_X6_memberAt l hfl Z hZ X M O p0 o3 hf2 sz) (cw_RX6_199 (args := args) (s := s) hts (Nat.le_of_ble_eq_true rfl) (Nat.le_of_ble_eq_true rfl)) hE hP hK hS (rv_0 hK hP (by decide)) rfl hl.1 rfl (Nat.le_of_ble_eq_true rfl) dX6_vote_2 ⟨Nat.le_of_ble_eq_true rfl, Nat.le_of_ble_eq_true rfl⟩ (fun E4 ce9 q9 H locs hoE hP hS hc9 hv9 hcl9 => ?_) (fun i1 hi1 H locs ho hP hS => ?_)
  · have hk := he6 _ hoE
    cases (show some _ = some _ from hk)
    exact vx_out (hout9 _) hlocks hc9 hv9 hcl9 (fun t8 ht8 hA8 => ⟨(), trivial, ⟨rfl, wP_eq ht8 hP⟩, hS.F ht8⟩) hS.2.2 (by decide) (by decide)
  have hk := hn5 _ ho
  refine lv_pop hx hb dX6_vote_5 rfl ?_
  refine lv_aload_n hx hb dX6_vote_6 rfl (lv_at hl 0 rfl) ?_
  refine lv_iload_n hx hb dX6_vote_7 rfl (lv_at hl 2 rfl) ?_
  obtain ⟨o9, hf8, hn11, he12⟩ := e0_s hk
  refine wc_qV (kd := 12) (rest := []) (As := [.int p1]) ⟨hx, hb, hml, hown, hts⟩ (fun sz => k_X6_workAt l hfl Z hZ X M O p1 o9 hf8 sz) (cw_RX6_219 (args := args) (s := s) hts (Nat.le_of_ble_eq_true rfl) (Nat.le_of_ble_eq_true rfl)) hE hP hK hS (rv_0 hK hP (by decide)) rfl hl.1 rfl (Nat.le_of_ble_eq_true rfl) dX6_vote_8 ⟨Nat.le_of_ble_eq_true rfl, Nat.le_of_ble_eq_true rfl⟩ (fun E10 ce9 q9 H locs hoE hP hS hc9 hv9 hcl9 => ?_) (fun i7 hi7 H locs ho hP hS => ?_)
  · have hk := he12 _ hoE
    cases (show some _ = some _ from hk)
    exact vx_out (hout9 _) hlocks hc9 hv9 hcl9 (fun t8 ht8 hA8 => ⟨(), trivial, ⟨rfl, wP_eq ht8 hP⟩, hS.F ht8⟩) hS.2.2 (by decide) (by decide)
  have hk := hn11 _ ho
  refine lv_astore (lv' := [(4, .ref (Z.2.2 12 i7)), (0, .ref (Z.2.2 0 0)), (1, .int p0), (2, .int p1), (3, .int p2)]) hx hb dX6_vote_11 hl (by decide) rfl (fun ls hl => ?_)
  refine lv_iload_n hx hb dX6_vote_13 rfl (lv_at hl 4 rfl) ?_
  refine lv_iconst (v := (1 : Int32)) hx hb dX6_vote_14 (by decide) ?_
  refine lv_icmp_lt (tgt := 23) hx hb dX6_vote_15 (by decide) (fun cz13 => ?_) (fun cz13 => ?_)
  · have hk := it_t cz13 hk
    cases (show some _ = some _ from hk)
    obtain ⟨sa, hstr⟩ := EV.str hE (own := RX6) (k := 287) (tx := "the style is out of range") (by decide +kernel)
    exact vx_throwSW (mc := 3) (ms := 18) (names := ["java/lang/RuntimeException", "java/lang/Exception"]) hx hb hfl hown (by decide +kernel) (by decide +kernel) (hts _ q629) (hts _ q94) hstr (th_96 hE hts) (by decide +kernel) (EV.zu hE) (EV.zn hE) hS (hl.1.trans hml.symm) dX6_vote_23 dX6_vote_26 dX6_vote_27 dX6_vote_30 dX6_vote_33 (hout9 _) (Nat.le_of_ble_eq_true rfl) (Nat.le_of_ble_eq_true rfl) (Nat.le_of_ble_eq_true rfl) (Nat.le_of_ble_eq_true rfl) hlocks (fun t9 _ h8 h9 => ⟨(), trivial, ⟨rfl, wP_kept hP h9⟩, fF hS h8 h9⟩) hS.2.2 (by decide) (by decide)
  · have hk := it_f cz13 hk
    refine lv_iload_n hx hb dX6_vote_18 rfl (lv_at hl 4 rfl) ?_
    refine lv_iconst (v := (5 : Int32)) hx hb dX6_vote_19 (by decide) ?_
    refine lv_icmp_le (tgt := 34) hx hb dX6_vote_20 (by decide) (fun cz14 => ?_) (fun cz14 => ?_)
    · have hk := it_t cz14 hk
      refine lv_iload_n hx hb dX6_vote_34 rfl (lv_at hl 2 rfl) ?_
      refine lv_aload hx hb dX6_vote_35 (lv_at hl 0 rfl) ?_
      obtain ⟨v15, hf16, hk⟩ := b0_s hk
      refine wc_iS0 (rest := []) (As := [.int p0, .ref (Z.2.2 12 i7)]) ⟨hx, hb, hml, hown, hts⟩ (fun sz => k_X6_isOpenToVoteOf l hfl Z hZ X M O p0 i7 hi7 v15 hf16 sz) (cw_RX6_289 (args := args) (s := s) hts (Nat.le_of_ble_eq_true rfl) (Nat.le_of_ble_eq_true rfl)) hE hP hK hS  rfl hl.1 rfl (Nat.le_of_ble_eq_true rfl) dX6_vote_37 ⟨Nat.le_of_ble_eq_true rfl, Nat.le_of_ble_eq_true rfl⟩ (fun H locs hP hS => ?_)
      refine lv_if_ne (tgt := 54) hx hb dX6_vote_40 (by decide) (fun cz17 => ?_) (fun cz17 => ?_)
      · have hk := it_f cz17 hk
        refine lv_aload_n hx hb dX6_vote_54 rfl (lv_at hl 1 rfl) ?_
        refine lv_iload_n hx hb dX6_vote_55 rfl (lv_at hl 2 rfl) ?_
        obtain ⟨X19, v18, hf20, hk⟩ := b1_s hk
        refine wc_iV0 (rest := []) (As := [.int p0]) ⟨hx, hb, hml, hown, hts⟩ (fun sz => k_X6_beltOf l hfl Z hZ X M O p0 X19 v18 hf20 sz) (cw_RX6_295 (args := args) (s := s) hts (Nat.le_of_ble_eq_true rfl) (Nat.le_of_ble_eq_true rfl)) hE hP hK hS (rv_0 hK hP (by decide)) rfl hl.1 rfl (Nat.le_of_ble_eq_true rfl) dX6_vote_56 ⟨Nat.le_of_ble_eq_true rfl, Nat.le_of_ble_eq_true rfl⟩ (fun H locs hP hS => ?_)
        refine lv_iconst (v := (1 : Int32)) hx hb dX6_vote_59 (by decide) ?_
        refine lv_iadd hx hb dX6_vote_60 ?_
        obtain ⟨v21, ev21, hk⟩ := lq_s hk
        refine W.eq (g2 := F0 m 61 ls [.int v21]) (by rw [ev21]) ?_
        refine lv_istore (lv' := [(5, .int v21), (4, .ref (Z.2.2 12 i7)), (0, .ref (Z.2.2 0 0)), (1, .int p0), (2, .int p1), (3, .int p2)]) hx hb dX6_vote_61 hl (by decide) rfl (fun ls hl => ?_)
        refine lv_aload hx hb dX6_vote_63 (lv_at hl 1 rfl) ?_
        refine lv_iload_n hx hb dX6_vote_65 rfl (lv_at hl 3 rfl) ?_
        refine lv_iload_n hx hb dX6_vote_66 rfl (lv_at hl 5 rfl) ?_
        refine lv_iload hx hb dX6_vote_67 (lv_at hl 0 rfl) ?_
        obtain ⟨X23, v22, hf24, hk⟩ := b1_s hk
        refine wc_vV0 (rest := []) (As := [.int p0, .int p2, .int v21]) ⟨hx, hb, hml, hown, hts⟩ (fun sz => k_X5_takeVote l hfl Z hZ X19 M O i7 p0 p2 v21 hi7 X23 v22 hf24 sz) (cw_RX6_298 (args := args) (s := s) hts (Nat.le_of_ble_eq_true rfl) (Nat.le_of_ble_eq_true rfl)) hE hP hK hS (rv_12 hK hP hi7) rfl hl.1 rfl (Nat.le_of_ble_eq_true rfl) dX6_vote_69 ⟨Nat.le_of_ble_eq_true rfl, Nat.le_of_ble_eq_true rfl⟩ (fun H locs hP hS => ?_)
        refine lv_iload hx hb dX6_vote_72 (lv_at hl 0 rfl) ?_
        cases (show some _ = some _ from hk)
        exact we_i hx hb hr hlocks hP rfl hS dX6_vote_74 (by decide) (by decide)
      · have hk := it_t cz17 hk
        cases (show some _ = some _ from hk)
        obtain ⟨sa, hstr⟩ := EV.str hE (own := RX6) (k := 293) (tx := "the own one, without a body, or in f") (by decide +kernel)
        exact vx_throwSW (mc := 3) (ms := 18) (names := ["java/lang/RuntimeException", "java/lang/Exception"]) hx hb hfl hown (by decide +kernel) (by decide +kernel) (hts _ q838) (hts _ q98) hstr (th_171 hE hts) (by decide +kernel) (EV.zu hE) (EV.zn hE) hS (hl.1.trans hml.symm) dX6_vote_43 dX6_vote_46 dX6_vote_47 dX6_vote_50 dX6_vote_53 (hout9 _) (Nat.le_of_ble_eq_true rfl) (Nat.le_of_ble_eq_true rfl) (Nat.le_of_ble_eq_true rfl) (Nat.le_of_ble_eq_true rfl) hlocks (fun t9 _ h8 h9 => ⟨(), trivial, ⟨rfl, wP_kept hP h9⟩, fF hS h8 h9⟩) hS.2.2 (by decide) (by decide)
    · have hk := it_f cz14 hk
      cases (show some _ = some _ from hk)
      obtain ⟨sa, hstr⟩ := EV.str hE (own := RX6) (k := 287) (tx := "the style is out of range") (by decide +kernel)
      exact vx_throwSW (mc := 3) (ms := 18) (names := ["java/lang/RuntimeException", "java/lang/Exception"]) hx hb hfl hown (by decide +kernel) (by decide +kernel) (hts _ q629) (hts _ q94) hstr (th_96 hE hts) (by decide +kernel) (EV.zu hE) (EV.zn hE) hS (hl.1.trans hml.symm) dX6_vote_23 dX6_vote_26 dX6_vote_27 dX6_vote_30 dX6_vote_33 (hout9 _) (Nat.le_of_ble_eq_true rfl) (Nat.le_of_ble_eq_true rfl) (Nat.le_of_ble_eq_true rfl) (Nat.le_of_ble_eq_true rfl) hlocks (fun t9 _ h8 h9 => ⟨(), trivial, ⟨rfl, wP_kept hP h9⟩, fF hS h8 h9⟩) hS.2.2 (by decide) (by decide)
set_option maxHeartbeats 4000000 in
set_option maxRecDepth 100000 in
theorem k_X6_commonDivisor (l : Launch) (hfl : l.stackTraces = false) (Z : ZT) (hZ : wD Z) (X M O : SS) (p0 : Int32) (p1 : Int32) (r : Int32) (hf : f_X6_commonDivisor p0 p1 = some (r)) (sz : Nat) : vx_Met l yX6_commonDivisor ws_X6_commonDivisor rm_X6_commonDivisor (va_Pc [.int p0, .int p1] (cP Z (X, M, O) sz)) (cQi Z (X, M, O) (.inl r) sz) (cX Z (X, M, O) (.inl r : Int32 ⊕ String) sz) 0 0 (wA Z sz) := by
  refine vx_ofW (cc := cX6_commonDivisor) (maxL := 6) (ret := (some .int)) (by decide) rfl ?_
  intro p e s m args below meth c s₁ B hml htab hv
  obtain ⟨hargs, hsz, hE, hP, hK⟩ := hv
  have hx := B.exec
  have hb := B.bytes
  have hr := B.returns
  have hts0 := atoms_spec (ws := ws_X6_commonDivisor) B.pre
  have hts : ∀ w ∈ lw_all, w.before args s = true := fun w h => hts0 w (List.mem_cons_of_mem _ h)
  have hown : s.vm.findClass RX6 = some m.cls := findClass_of_methodNamed B.named
  have hlocks := B.notSynchronized
  have hout9 : ∀ (pc9 : Nat), ∀ x ∈ c.exceptionTable.toList, covers x pc9 = false := fun _ x hx9 => (htab x hx9).elim
  subst hsz
  have hS : va_S (wA Z s.heap.size) s.heap s.heap [] := va_S.rf
  have hl := lv_entry ([.int p0, .int p1]) (n := 6) (Nat.le_of_ble_eq_true rfl)
  have hen : entryFrame m args 6 = entryFrame m ([.int p0, .int p1] : List Value).toArray 6 := by rw [hargs]
  rw [hen, lg_entry_eq]
  generalize (lg_sl ([.int p0, .int p1]) ++ List.replicate (6 - (lg_sl ([.int p0, .int p1])).length) Slot.unset).toArray = ls at hl ⊢
  have hl : lv_has ls 6 [(0, .int p0), (1, .int p1)] := hl
  have hk := hf
  unfold f_X6_commonDivisor at hk
  refine lv_iload_n hx hb dX6_commonDivisor_0 rfl (lv_at hl 0 rfl) ?_
  refine lv_istore_n (lv' := [(2, .int p0), (0, .int p0), (1, .int p1)]) hx hb dX6_commonDivisor_1 rfl hl (by decide) rfl (fun ls hl => ?_)
  refine lv_iload_n hx hb dX6_commonDivisor_2 rfl (lv_at hl 2 rfl) ?_
  refine lv_istore_n (lv' := [(3, .int p1), (2, .int p0), (0, .int p0), (1, .int p1)]) hx hb dX6_commonDivisor_3 rfl hl (by decide) rfl (fun ls hl => ?_)
  refine lv_iconst (v := (0 : Int32)) hx hb dX6_commonDivisor_4 (by decide) ?_
  refine lv_istore (lv' := [(4, .int (0 : Int32)), (3, .int p1), (2, .int p0), (0, .int p0), (1, .int p1)]) hx hb dX6_commonDivisor_5 hl (by decide) rfl (fun ls hl => ?_)
  obtain ⟨k1, hk1, hk⟩ := gn hk
  have ex1 : ∀ (v2 : Int32) (H : Heap) (locs : List Loc) (ls : Array Slot), k1 v2 = some (r) → wP Z (X, M, O) H → va_S (wA Z s.heap.size) s.heap H locs → lv_has ls 6 [(2, .int v2)] → W p l e (headSpec ws_X6_commonDivisor rm_X6_commonDivisor).room s m args below meth c H locs 0 0 (vx_MQ below (cQi Z (X, M, O) (.inl r) s.heap.size) (cX Z (X, M, O) (.inl r : Int32 ⊕ String) s.heap.size) args s 0 0 (wA Z s.heap.size)) (F0 m 34 ls []) := by
    intro v2 H locs ls hk hP hS hl
    subst hk1
    refine lv_iload_n hx hb dX6_commonDivisor_34 rfl (lv_at hl 0 rfl) ?_
    cases (show some _ = some _ from hk)
    exact we_i hx hb hr hlocks hP rfl hS dX6_commonDivisor_35 (by decide) (by decide)
  have lp1 : ∀ (n : Nat) (v3 : Int32) (v4 : Int32) (v5 : Int32) (H : Heap) (locs : List Loc) (ls : Array Slot), f_X6_commonDivisor_L7  n v3 v4 v5 k1 = some (r) → wP Z (X, M, O) H → va_S (wA Z s.heap.size) s.heap H locs → lv_has ls 6 [(4, .int v3), (3, .int v4), (2, .int v5)] → W p l e (headSpec ws_X6_commonDivisor rm_X6_commonDivisor).room s m args below meth c H locs 0 0 (vx_MQ below (cQi Z (X, M, O) (.inl r) s.heap.size) (cX Z (X, M, O) (.inl r : Int32 ⊕ String) s.heap.size) args s 0 0 (wA Z s.heap.size)) (F0 m 7 ls []) := by
    intro n
    induction n with
    | zero =>
      intro v3 v4 v5 H locs ls hk
      rw [f_X6_commonDivisor_L7] at hk
      exact nomatch (show none = some _ from hk)
    | succ n ih =>
      intro v3 v4 v5 H locs ls hk hP hS hl
      rw [f_X6_commonDivisor_L7] at hk
      refine lv_iload hx hb dX6_commonDivisor_7 (lv_at hl 0 rfl) ?_
      refine lv_bipush (v := (100 : Int32)) hx hb dX6_commonDivisor_9 (by decide) ?_
      refine lv_icmp_ge (tgt := 34) hx hb dX6_commonDivisor_11 (by decide) (fun cz6 => ?_) (fun cz6 => ?_)
      · have hk := it_t cz6 hk
        exact ex1 v5 _ _ _ hk hP hS (lv_sub hl [2] rfl)
      · have hk := it_f cz6 hk
        refine lv_iload_n hx hb dX6_commonDivisor_14 rfl (lv_at hl 1 rfl) ?_
        refine lv_if_eq (tgt := 34) hx hb dX6_commonDivisor_15 (by decide) (fun cz7 => ?_) (fun cz7 => ?_)
        · have hk := it_t cz7 hk
          exact ex1 v5 _ _ _ hk hP hS (lv_sub hl [2] rfl)
        · have hk := it_f cz7 hk
          refine lv_iload_n hx hb dX6_commonDivisor_18 rfl (lv_at hl 2 rfl) ?_
          refine lv_iload_n hx hb dX6_commonDivisor_19 rfl (lv_at hl 1 rfl) ?_
          obtain ⟨hg8, hk⟩ := gd_s hk
          refine lv_irem hx hb dX6_commonDivisor_20 hg8 ?_
          obtain ⟨v9, ev9, hk⟩ := lq_s hk
          refine W.eq (g2 := F0 m 21 ls [.int v9]) (by rw [ev9]) ?_
          refine lv_istore (lv' := [(5, .int v9), (4, .int v3), (3, .int v4), (2, .int v5)]) hx hb dX6_commonDivisor_21 hl (by decide) rfl (fun ls hl => ?_)
          refine lv_iload_n hx hb dX6_commonDivisor_23 rfl (lv_at hl 2 rfl) ?_
          refine lv_istore_n (lv' := [(2, .int v4), (5, .int v9), (4, .int v3), (3, .int v4)]) hx hb dX6_commonDivisor_24 rfl hl (by decide) rfl (fun ls hl => ?_)
          refine lv_iload hx hb dX6_commonDivisor_25 (lv_at hl 1 rfl) ?_
          refine lv_istore_n (lv' := [(3, .int v9), (2, .int v4), (5, .int v9), (4, .int v3)]) hx hb dX6_commonDivisor_27 rfl hl (by decide) rfl (fun ls hl => ?_)
          refine lv_iinc (v := (v3 + (1 : Int32))) (lv' := [(4, .int (v3 + (1 : Int32))), (3, .int v9), (2, .int v4), (5, .int v9)]) hx hb dX6_commonDivisor_28 hl (k := 3) rfl rfl (by decide) rfl (fun ls hl => ?_)
          refine lv_goto (tgt := 7) hx hb dX6_commonDivisor_31 (by decide) ?_
          exact ih (v3 + (1 : Int32)) v9 v4 _ _ _ hk hP hS (lv_sub hl [0, 1, 2] rfl)
  exact lp1 1000 (0 : Int32) p1 p0 _ _ _ hk hP hS (lv_sub hl [0, 1, 2] rfl)
set_option maxHeartbeats 4000000 in
set_option maxRecDepth 100000 in
theorem k_X6_style (l : Launch) (hfl : l.stackTraces = false) (Z : ZT) (hZ : wD Z) (X M O : SS) (p0 : Int32) (p1 : Int32) (o : Int64 ⊕ String) (hf : f_X6_style X p0 p1 = some (o)) (sz : Nat) : vx_Met l yX6_style ws_X6_style rm_X6_style (va_Pc [.ref (Z.2.2 0 0), .int p0, .int p1] (cP Z (X, M, O) sz)) (cQl Z (X, M, O) o sz) (cX Z (X, M, O) o sz) 1 6 (wA Z sz) := by
  refine vx_ofW (cc := cX6_style) (maxL := 7) (ret := (some .long)) (by decide) rfl ?_
  intro p e s m args below meth c s₁ B hml htab hv
  obtain ⟨hargs, hsz, hE, hP, hK⟩ := hv
  have hx := B.exec
  have hb := B.bytes
  have hr := B.returns
  have hts0 := atoms_spec (ws := ws_X6_style) B.pre
  have hts : ∀ w ∈ lw_all, w.before args s = true := fun w h => hts0 w (List.mem_cons_of_mem _ h)
  have hown : s.vm.findClass RX6 = some m.cls := findClass_of_methodNamed B.named
  have hlocks := B.notSynchronized
  have hout9 : ∀ (pc9 : Nat), ∀ x ∈ c.exceptionTable.toList, covers x pc9 = false := fun _ x hx9 => (htab x hx9).elim
  subst hsz
  have hS : va_S (wA Z s.heap.size) s.heap s.heap [] := va_S.rf
  have hl := lv_entry ([.ref (Z.2.2 0 0), .int p0, .int p1]) (n := 7) (Nat.le_of_ble_eq_true rfl)
  have hen : entryFrame m args 7 = entryFrame m ([.ref (Z.2.2 0 0), .int p0, .int p1] : List Value).toArray 7 := by rw [hargs]
  rw [hen, lg_entry_eq]
  generalize (lg_sl ([.ref (Z.2.2 0 0), .int p0, .int p1]) ++ List.replicate (7 - (lg_sl ([.ref (Z.2.2 0 0), .int p0, .int p1])).length) Slot.unset).toArray = ls at hl ⊢
  have hl : lv_has ls 7 [(0, .ref (Z.2.2 0 0)), (1, .int p0), (2, .int p1)] := hl
  have hk := hf
  unfold f_X6_style at hk
  refine lv_aload_n hx hb dX6_style_0 rfl (lv_at hl 0 rfl) ?_
  refine lv_iload_n hx hb dX6_style_1 rfl (lv_at hl 1 rfl) ?_
  obtain ⟨o3, hf2, hn5, he6⟩ := e0_s hk
  refine wc_qV (kd := 12) (rest := []) (As := [.int p0]) ⟨hx, hb, hml, hown, hts⟩ (fun sz => k_X6_workAt l hfl Z hZ X M O p0 o3 hf2 sz) (cw_RX6_219 (args := args) (s := s) hts (Nat.le_of_ble_eq_true rfl) (Nat.le_of_ble_eq_true rfl)) hE hP hK hS (rv_0 hK hP (by decide)) rfl hl.1 rfl (Nat.le_of_ble_eq_true rfl) dX6_style_2 ⟨Nat.le_of_ble_eq_true rfl, Nat.le_of_ble_eq_true rfl⟩ (fun E4 ce9 q9 H locs hoE hP hS hc9 hv9 hcl9 => ?_) (fun i1 hi1 H locs ho hP hS => ?_)
  · have hk := he6 _ hoE
    cases (show some _ = some _ from hk)
    exact vx_out (hout9 _) hlocks hc9 hv9 hcl9 (fun t8 ht8 hA8 => ⟨(), trivial, ⟨rfl, wP_eq ht8 hP⟩, hS.F ht8⟩) hS.2.2 (by decide) (by decide)
  have hk := hn5 _ ho
  refine lv_astore_n (lv' := [(3, .ref (Z.2.2 12 i1)), (0, .ref (Z.2.2 0 0)), (1, .int p0), (2, .int p1)]) hx hb dX6_style_5 rfl hl (by decide) rfl (fun ls hl => ?_)
  refine lv_aload_n hx hb dX6_style_6 rfl (lv_at hl 0 rfl) ?_
  obtain ⟨v7, hf8, hk⟩ := b0_s hk
  refine wc_iV0 (rest := []) (As := []) ⟨hx, hb, hml, hown, hts⟩ (fun sz => k_X5_styleAbove l hfl Z hZ X M O i1 hi1 v7 hf8 sz) (cw_RX6_302 (args := args) (s := s) hts (Nat.le_of_ble_eq_true rfl) (Nat.le_of_ble_eq_true rfl)) hE hP hK hS (rv_12 hK hP hi1) rfl hl.1 rfl (Nat.le_of_ble_eq_true rfl) dX6_style_7 ⟨Nat.le_of_ble_eq_true rfl, Nat.le_of_ble_eq_true rfl⟩ (fun H locs hP hS => ?_)
  refine lv_istore (lv' := [(4, .int v7), (3, .ref (Z.2.2 12 i1)), (0, .ref (Z.2.2 0 0)), (1, .int p0), (2, .int p1)]) hx hb dX6_style_10 hl (by decide) rfl (fun ls hl => ?_)
  refine lv_aload_n hx hb dX6_style_12 rfl (lv_at hl 1 rfl) ?_
  obtain ⟨v9, hf10, hk⟩ := b0_s hk
  refine wc_iV0 (rest := []) (As := []) ⟨hx, hb, hml, hown, hts⟩ (fun sz => k_X5_styleUnder l hfl Z hZ X M O i1 hi1 v9 hf10 sz) (cw_RX6_305 (args := args) (s := s) hts (Nat.le_of_ble_eq_true rfl) (Nat.le_of_ble_eq_true rfl)) hE hP hK hS (rv_12 hK hP hi1) rfl hl.1 rfl (Nat.le_of_ble_eq_true rfl) dX6_style_13 ⟨Nat.le_of_ble_eq_true rfl, Nat.le_of_ble_eq_true rfl⟩ (fun H locs hP hS => ?_)
  refine lv_istore (lv' := [(5, .int v9), (4, .int v7), (3, .ref (Z.2.2 12 i1)), (0, .ref (Z.2.2 0 0)), (1, .int p0), (2, .int p1)]) hx hb dX6_style_16 hl (by decide) rfl (fun ls hl => ?_)
  refine lv_iload hx hb dX6_style_18 (lv_at hl 1 rfl) ?_
  refine lv_iload hx hb dX6_style_20 (lv_at hl 0 rfl) ?_
  obtain ⟨v11, hf12, hk⟩ := b0_s hk
  refine wc_iS0 (rest := []) (As := [.int v7, .int v9]) ⟨hx, hb, hml, hown, hts⟩ (fun sz => k_X6_commonDivisor l hfl Z hZ X M O v7 v9 v11 hf12 sz) (cw_RX6_308 (args := args) (s := s) hts (Nat.le_of_ble_eq_true rfl) (Nat.le_of_ble_eq_true rfl)) hE hP hK hS  rfl hl.1 rfl (Nat.le_of_ble_eq_true rfl) dX6_style_22 ⟨Nat.le_of_ble_eq_true rfl, Nat.le_of_ble_eq_true rfl⟩ (fun H locs hP hS => ?_)
  refine lv_istore (lv' := [(6, .int v11), (5, .int v9), (4, .int v7), (3, .ref (Z.2.2 12 i1)), (0, .ref (Z.2.2 0 0)), (1, .int p0), (2, .int p1)]) hx hb dX6_style_25 hl (by decide) rfl (fun ls hl => ?_)
  refine lv_iload hx hb dX6_style_27 (lv_at hl 0 rfl) ?_
  refine lv_iconst (v := (1 : Int32)) hx hb dX6_style_29 (by decide) ?_
  have jn14 : ∀ (v13 : Int32) (H : Heap) (locs : List Loc) (ls : Array Slot), f_X6_style_J36 p1 v7 v9 v13 = some (o) → wP Z (X, M, O) H → va_S (wA Z s.heap.size) s.heap H locs → lv_has ls 7 [(6, .int v13), (5, .int v9), (4, .int v7), (2, .int p1)] → W p l e (headSpec ws_X6_style rm_X6_style).room s m args below meth c H locs 1 6 (vx_MQ below (cQl Z (X, M, O) o s.heap.size) (cX Z (X, M, O) o s.heap.size) args s 1 6 (wA Z s.heap.size)) (F0 m 36 ls []) := by
    intro v13 H locs ls hk hP hS hl
    unfold f_X6_style_J36 at hk
    refine lv_iload_n hx hb dX6_style_36 rfl (lv_at hl 3 rfl) ?_
    refine lv_if_eq (tgt := 49) hx hb dX6_style_37 (by decide) (fun cz15 => ?_) (fun cz15 => ?_)
    · have hk := it_t cz15 hk
      refine lv_iload hx hb dX6_style_49 (lv_at hl 2 rfl) ?_
      refine lv_iload hx hb dX6_style_51 (lv_at hl 0 rfl) ?_
      obtain ⟨hg16, hk⟩ := gd_s hk
      refine lv_idiv hx hb dX6_style_53 hg16 ?_
      refine lv_i2l (v := ((v7 / v13)).toInt64) hx hb dX6_style_54 rfl ?_
      cases (show some _ = some _ from hk)
      exact we_l hx hb hr hlocks hP rfl hS dX6_style_55 (by decide) (by decide)
    · have hk := it_f cz15 hk
      refine lv_iload hx hb dX6_style_40 (lv_at hl 1 rfl) ?_
      refine lv_iload hx hb dX6_style_42 (lv_at hl 0 rfl) ?_
      obtain ⟨hg17, hk⟩ := gd_s hk
      refine lv_idiv hx hb dX6_style_44 hg17 ?_
      refine lv_i2l (v := ((v9 / v13)).toInt64) hx hb dX6_style_45 rfl ?_
      refine lv_goto (tgt := 55) hx hb dX6_style_46 (by decide) ?_
      cases (show some _ = some _ from hk)
      exact we_l hx hb hr hlocks hP rfl hS dX6_style_55 (by decide) (by decide)
  refine lv_icmp_ge (tgt := 36) hx hb dX6_style_30 (by decide) (fun cz18 => ?_) (fun cz18 => ?_)
  · have hk := it_t cz18 hk
    exact jn14 v11 _ _ _ hk hP hS (lv_sub hl [0, 1, 2, 6] rfl)
  · have hk := it_f cz18 hk
    refine lv_iconst (v := (1 : Int32)) hx hb dX6_style_33 (by decide) ?_
    refine lv_istore (lv' := [(6, .int (1 : Int32)), (5, .int v9), (4, .int v7), (3, .ref (Z.2.2 12 i1)), (0, .ref (Z.2.2 0 0)), (1, .int p0), (2, .int p1)]) hx hb dX6_style_34 hl (by decide) rfl (fun ls hl => ?_)
    exact jn14 (1 : Int32) _ _ _ hk hP hS (lv_sub hl [0, 1, 2, 6] rfl)
set_option maxHeartbeats 4000000 in
set_option maxRecDepth 100000 in
theorem k_X6_isReviewedBefore (l : Launch) (hfl : l.stackTraces = false) (Z : ZT) (hZ : wD Z) (X M O : SS) (i1 : Nat) (i2 : Nat) (hi1 : i1 < 40) (hi2 : i2 < 40) (r : Int32) (hf : f_X6_isReviewedBefore X i1 i2 = some (r)) (sz : Nat) : vx_Met l yX6_isReviewedBefore ws_X6_isReviewedBefore rm_X6_isReviewedBefore (va_Pc [.ref (Z.2.2 0 0), .ref (Z.2.2 12 i1), .ref (Z.2.2 12 i2)] (cP Z (X, M, O) sz)) (cQi Z (X, M, O) (.inl r) sz) (cX Z (X, M, O) (.inl r : Int32 ⊕ String) sz) 0 0 (wA Z sz) := by
  refine vx_ofW (cc := cX6_isReviewedBefore) (maxL := 3) (ret := (some .boolean)) (by decide) rfl ?_
  intro p e s m args below meth c s₁ B hml htab hv
  obtain ⟨hargs, hsz, hE, hP, hK⟩ := hv
  have hx := B.exec
  have hb := B.bytes
  have hr := B.returns
  have hts0 := atoms_spec (ws := ws_X6_isReviewedBefore) B.pre
  have hts : ∀ w ∈ lw_all, w.before args s = true := fun w h => hts0 w (List.mem_cons_of_mem _ h)
  have hown : s.vm.findClass RX6 = some m.cls := findClass_of_methodNamed B.named
  have hlocks := B.notSynchronized
  have hout9 : ∀ (pc9 : Nat), ∀ x ∈ c.exceptionTable.toList, covers x pc9 = false := fun _ x hx9 => (htab x hx9).elim
  subst hsz
  have hS : va_S (wA Z s.heap.size) s.heap s.heap [] := va_S.rf
  have hl := lv_entry ([.ref (Z.2.2 0 0), .ref (Z.2.2 12 i1), .ref (Z.2.2 12 i2)]) (n := 3) (Nat.le_of_ble_eq_true rfl)
  have hen : entryFrame m args 3 = entryFrame m ([.ref (Z.2.2 0 0), .ref (Z.2.2 12 i1), .ref (Z.2.2 12 i2)] : List Value).toArray 3 := by rw [hargs]
  rw [hen, lg_entry_eq]
  generalize (lg_sl ([.ref (Z.2.2 0 0), .ref (Z.2.2 12 i1), .ref (Z.2.2 12 i2)]) ++ List.replicate (3 - (lg_sl ([.ref (Z.2.2 0 0), .ref (Z.2.2 12 i1), .ref (Z.2.2 12 i2)])).length) Slot.unset).toArray = ls at hl ⊢
  have hl : lv_has ls 3 [(0, .ref (Z.2.2 0 0)), (1, .ref (Z.2.2 12 i1)), (2, .ref (Z.2.2 12 i2))] := hl
  have hk := hf
  unfold f_X6_isReviewedBefore at hk
  refine lv_aload_n hx hb dX6_isReviewedBefore_0 rfl (lv_at hl 1 rfl) ?_
  refine gf_RX6_230 hx hb hts hown hK hP hi1 dX6_isReviewedBefore_1 ?_
  refine lv_aload_n hx hb dX6_isReviewedBefore_4 rfl (lv_at hl 2 rfl) ?_
  refine gf_RX6_230 hx hb hts hown hK hP hi2 dX6_isReviewedBefore_5 ?_
  refine lv_icmp_eq (tgt := 28) hx hb dX6_isReviewedBefore_8 (by decide) (fun cz1 => ?_) (fun cz1 => ?_)
  · have hk := it_t cz1 hk
    refine lv_aload_n hx hb dX6_isReviewedBefore_28 rfl (lv_at hl 0 rfl) ?_
    refine gf_RX6_25 hx hb hts hown hK hP (by decide) dX6_isReviewedBefore_29 ?_
    refine lv_aload_n hx hb dX6_isReviewedBefore_32 rfl (lv_at hl 1 rfl) ?_
    refine gf_RX6_226 hx hb hts hown hK hP hi1 dX6_isReviewedBefore_33 ?_
    obtain ⟨hg2, hk⟩ := gd_s hk
    refine wa_aaload_21 hx hb hK hP (by decide) hg2 dX6_isReviewedBefore_36 ?_
    refine gf_RX6_139 hx hb hts hown hK hP (vp_lt hg2) dX6_isReviewedBefore_37 ?_
    refine lv_aload_n hx hb dX6_isReviewedBefore_40 rfl (lv_at hl 0 rfl) ?_
    refine gf_RX6_25 hx hb hts hown hK hP (by decide) dX6_isReviewedBefore_41 ?_
    refine lv_aload_n hx hb dX6_isReviewedBefore_44 rfl (lv_at hl 2 rfl) ?_
    refine gf_RX6_226 hx hb hts hown hK hP hi2 dX6_isReviewedBefore_45 ?_
    obtain ⟨hg3, hk⟩ := gd_s hk
    refine wa_aaload_21 hx hb hK hP (by decide) hg3 dX6_isReviewedBefore_48 ?_
    refine gf_RX6_139 hx hb hts hown hK hP (vp_lt hg3) dX6_isReviewedBefore_49 ?_
    refine lv_icmp_ge (tgt := 59) hx hb dX6_isReviewedBefore_52 (by decide) (fun cz4 => ?_) (fun cz4 => ?_)
    · have hk := it_t cz4 hk
      refine lv_iconst (v := (0 : Int32)) hx hb dX6_isReviewedBefore_59 (by decide) ?_
      cases (show some _ = some _ from hk)
      exact we_z hx hb hr hlocks (show okz (0 : Int32) by unfold okz; decide).1 hP rfl hS dX6_isReviewedBefore_60 (by decide) (by decide)
    · have hk := it_f cz4 hk
      refine lv_iconst (v := (1 : Int32)) hx hb dX6_isReviewedBefore_55 (by decide) ?_
      refine lv_goto (tgt := 60) hx hb dX6_isReviewedBefore_56 (by decide) ?_
      cases (show some _ = some _ from hk)
      exact we_z hx hb hr hlocks (show okz (1 : Int32) by unfold okz; decide).1 hP rfl hS dX6_isReviewedBefore_60 (by decide) (by decide)
  · have hk := it_f cz1 hk
    refine lv_aload_n hx hb dX6_isReviewedBefore_11 rfl (lv_at hl 1 rfl) ?_
    refine gf_RX6_230 hx hb hts hown hK hP hi1 dX6_isReviewedBefore_12 ?_
    refine lv_aload_n hx hb dX6_isReviewedBefore_15 rfl (lv_at hl 2 rfl) ?_
    refine gf_RX6_230 hx hb hts hown hK hP hi2 dX6_isReviewedBefore_16 ?_
    refine lv_icmp_ge (tgt := 26) hx hb dX6_isReviewedBefore_19 (by decide) (fun cz5 => ?_) (fun cz5 => ?_)
    · have hk := it_t cz5 hk
      refine lv_iconst (v := (0 : Int32)) hx hb dX6_isReviewedBefore_26 (by decide) ?_
      cases (show some _ = some _ from hk)
      exact we_z hx hb hr hlocks (show okz (0 : Int32) by unfold okz; decide).1 hP rfl hS dX6_isReviewedBefore_27 (by decide) (by decide)
    · have hk := it_f cz5 hk
      refine lv_iconst (v := (1 : Int32)) hx hb dX6_isReviewedBefore_22 (by decide) ?_
      refine lv_goto (tgt := 27) hx hb dX6_isReviewedBefore_23 (by decide) ?_
      cases (show some _ = some _ from hk)
      exact we_z hx hb hr hlocks (show okz (1 : Int32) by unfold okz; decide).1 hP rfl hS dX6_isReviewedBefore_27 (by decide) (by decide)
set_option maxHeartbeats 4000000 in
set_option maxRecDepth 100000 in
theorem k_X6_review (l : Launch) (hfl : l.stackTraces = false) (Z : ZT) (hZ : wD Z) (X M O : SS) (p0 : Int32) (o : Int32 ⊕ String) (hf : f_X6_review X p0 = some (o)) (sz : Nat) : vx_Met l yX6_review ws_X6_review rm_X6_review (va_Pc [.ref (Z.2.2 0 0), .int p0] (cP Z (X, M, O) sz)) (cQi Z (X, M, O) o sz) (cX Z (X, M, O) o sz) 2 12 (wA Z sz) := by
  refine vx_ofW (cc := cX6_review) (maxL := 6) (ret := (some .int)) (by decide) rfl ?_
  intro p e s m args below meth c s₁ B hml htab hv
  obtain ⟨hargs, hsz, hE, hP, hK⟩ := hv
  have hx := B.exec
  have hb := B.bytes
  have hr := B.returns
  have hts0 := atoms_spec (ws := ws_X6_review) B.pre
  have hts : ∀ w ∈ lw_all, w.before args s = true := fun w h => hts0 w (List.mem_cons_of_mem _ h)
  have hown : s.vm.findClass RX6 = some m.cls := findClass_of_methodNamed B.named
  have hlocks := B.notSynchronized
  have hout9 : ∀ (pc9 : Nat), ∀ x ∈ c.exceptionTable.toList, covers x pc9 = false := fun _ x hx9 => (htab x hx9).elim
  subst hsz
  have hS : va_S (wA Z s.heap.size) s.heap s.heap [] := va_S.rf
  have hl := lv_entry ([.ref (Z.2.2 0 0), .int p0]) (n := 6) (Nat.le_of_ble_eq_true rfl)
  have hen : entryFrame m args 6 = entryFrame m ([.ref (Z.2.2 0 0), .int p0] : List Value).toArray 6 := by rw [hargs]
  rw [hen, lg_entry_eq]
  generalize (lg_sl ([.ref (Z.2.2 0 0), .int p0]) ++ List.replicate (6 - (lg_sl ([.ref (Z.2.2 0 0), .int p0])).length) Slot.unset).toArray = ls at hl ⊢
  have hl : lv_has ls 6 [(0, .ref (Z.2.2 0 0)), (1, .int p0)] := hl
  have hk := hf
  unfold f_X6_review at hk
  refine lv_aload_n hx hb dX6_review_0 rfl (lv_at hl 0 rfl) ?_
  refine lv_iload_n hx hb dX6_review_1 rfl (lv_at hl 1 rfl) ?_
  obtain ⟨o3, hf2, hn5, he6⟩ := e0_s hk
  refine wc_qV (kd := 9) (rest := []) (As := [.int p0]) ⟨hx, hb, hml, hown, hts⟩ (fun sz => k_X6_memberAt l hfl Z hZ X M O p0 o3 hf2 sz) (cw_RX6_199 (args := args) (s := s) hts (Nat.le_of_ble_eq_true rfl) (Nat.le_of_ble_eq_true rfl)) hE hP hK hS (rv_0 hK hP (by decide)) rfl hl.1 rfl (Nat.le_of_ble_eq_true rfl) dX6_review_2 ⟨Nat.le_of_ble_eq_true rfl, Nat.le_of_ble_eq_true rfl⟩ (fun E4 ce9 q9 H locs hoE hP hS hc9 hv9 hcl9 => ?_) (fun i1 hi1 H locs ho hP hS => ?_)
  · have hk := he6 _ hoE
    cases (show some _ = some _ from hk)
    exact vx_out (hout9 _) hlocks hc9 hv9 hcl9 (fun t8 ht8 hA8 => ⟨(), trivial, ⟨rfl, wP_eq ht8 hP⟩, hS.F ht8⟩) hS.2.2 (by decide) (by decide)
  have hk := hn5 _ ho
  refine lv_pop hx hb dX6_review_5 rfl ?_
  refine lv_iconst (v := ((-1) : Int32)) hx hb dX6_review_6 (by decide) ?_
  refine lv_istore_n (lv' := [(2, .int ((-1) : Int32)), (0, .ref (Z.2.2 0 0)), (1, .int p0)]) hx hb dX6_review_7 rfl hl (by decide) rfl (fun ls hl => ?_)
  refine lv_iconst (v := (0 : Int32)) hx hb dX6_review_8 (by decide) ?_
  refine lv_istore_n (lv' := [(3, .int (0 : Int32)), (2, .int ((-1) : Int32)), (0, .ref (Z.2.2 0 0)), (1, .int p0)]) hx hb dX6_review_9 rfl hl (by decide) rfl (fun ls hl => ?_)
  obtain ⟨k7, hk7, hk⟩ := gn hk
  have ex7 : ∀ (v8 : Int32) (H : Heap) (locs : List Loc) (ls : Array Slot), k7 v8 = some (o) → wP Z (X, M, O) H → va_S (wA Z s.heap.size) s.heap H locs → lv_has ls 6 [(2, .int v8)] → W p l e (headSpec ws_X6_review rm_X6_review).room s m args below meth c H locs 1 6 (vx_MQ below (cQi Z (X, M, O) o s.heap.size) (cX Z (X, M, O) o s.heap.size) args s 2 12 (wA Z s.heap.size)) (F0 m 85 ls []) := by
    intro v8 H locs ls hk hP hS hl
    subst hk7
    refine lv_iload_n hx hb dX6_review_85 rfl (lv_at hl 0 rfl) ?_
    refine lv_iconst (v := ((-1) : Int32)) hx hb dX6_review_86 (by decide) ?_
    refine lv_icmp_ne (tgt := 101) hx hb dX6_review_87 (by decide) (fun cz11 => ?_) (fun cz11 => ?_)
    · have hk := it_f cz11 hk
      refine lv_iload_n hx hb dX6_review_101 rfl (lv_at hl 0 rfl) ?_
      cases (show some _ = some _ from hk)
      exact we_i hx hb hr hlocks hP rfl hS dX6_review_102 (by decide) (by decide)
    · have hk := it_t cz11 hk
      cases (show some _ = some _ from hk)
      obtain ⟨sa, hstr⟩ := EV.str hE (own := RX6) (k := 319) (tx := "no work to review") (by decide +kernel)
      exact ng_throwSW (mc := 2) (ms := 12) (Y1 := "java/lang/RuntimeException") (r9 := ["java/lang/Exception"]) hx hb hfl hown (by decide +kernel) (by decide +kernel) (by decide +kernel) (hts _ q866) (hts _ q99) hstr (th_190 hE hts) (by decide +kernel) (EV.zu hE) (EV.zn hE) hS (hl.1.trans hml.symm) dX6_review_90 dX6_review_93 dX6_review_94 dX6_review_97 dX6_review_100 (hout9 _) (Nat.le_of_ble_eq_true rfl) (Nat.le_of_ble_eq_true rfl) (Nat.le_of_ble_eq_true rfl) (Nat.le_of_ble_eq_true rfl) hlocks (fun t9 _ h8 h9 => ⟨(), trivial, ⟨rfl, wP_kept hP h9⟩, fF hS h8 h9⟩) hS.2.2 (by decide) (by decide)
  have lp7 : ∀ (n : Nat) (v9 : Int32) (v10 : Int32) (H : Heap) (locs : List Loc) (ls : Array Slot), f_X6_review_L10 X p0 n v9 v10 k7 = some (o) → wP Z (X, M, O) H → va_S (wA Z s.heap.size) s.heap H locs → lv_has ls 6 [(3, .int v9), (2, .int v10), (0, .ref (Z.2.2 0 0)), (1, .int p0)] → W p l e (headSpec ws_X6_review rm_X6_review).room s m args below meth c H locs 1 6 (vx_MQ below (cQi Z (X, M, O) o s.heap.size) (cX Z (X, M, O) o s.heap.size) args s 2 12 (wA Z s.heap.size)) (F0 m 10 ls []) := by
    intro n
    induction n with
    | zero =>
      intro v9 v10 H locs ls hk
      rw [f_X6_review_L10] at hk
      exact nomatch (show none = some _ from hk)
    | succ n ih =>
      intro v9 v10 H locs ls hk hP hS hl
      rw [f_X6_review_L10] at hk
      refine lv_iload_n hx hb dX6_review_10 rfl (lv_at hl 0 rfl) ?_
      refine lv_aload_n hx hb dX6_review_11 rfl (lv_at hl 2 rfl) ?_
      refine gf_RX6_65 hx hb hts hown hK hP (by decide) dX6_review_12 ?_
      refine lv_icmp_ge (tgt := 85) hx hb dX6_review_15 (by decide) (fun cz12 => ?_) (fun cz12 => ?_)
      · have hk := it_t cz12 hk
        exact ex7 v10 _ _ _ hk hP hS (lv_sub hl [1] rfl)
      · have hk := it_f cz12 hk
        refine lv_aload_n hx hb dX6_review_18 rfl (lv_at hl 2 rfl) ?_
        refine gf_RX6_37 hx hb hts hown hK hP (by decide) dX6_review_19 ?_
        refine lv_iload_n hx hb dX6_review_22 rfl (lv_at hl 0 rfl) ?_
        obtain ⟨hg13, hk⟩ := gd_s hk
        refine wa_aaload_23 hx hb hK hP (by decide) hg13 dX6_review_23 ?_
        refine lv_astore (lv' := [(4, .ref (Z.2.2 12 (v9).toNatClampNeg)), (3, .int v9), (2, .int v10), (0, .ref (Z.2.2 0 0)), (1, .int p0)]) hx hb dX6_review_24 hl (by decide) rfl (fun ls hl => ?_)
        refine lv_iload_n hx hb dX6_review_26 rfl (lv_at hl 4 rfl) ?_
        refine lv_aload hx hb dX6_review_27 (lv_at hl 0 rfl) ?_
        obtain ⟨v14, hf15, hk⟩ := b0_s hk
        refine wc_iS0 (rest := []) (As := [.int p0, .ref (Z.2.2 12 (v9).toNatClampNeg)]) ⟨hx, hb, hml, hown, hts⟩ (fun sz => k_X6_isOpenToVoteOf l hfl Z hZ X M O p0 (v9).toNatClampNeg (vp_lt hg13) v14 hf15 sz) (cw_RX6_289 (args := args) (s := s) hts (Nat.le_of_ble_eq_true rfl) (Nat.le_of_ble_eq_true rfl)) hE hP hK hS  rfl hl.1 rfl (Nat.le_of_ble_eq_true rfl) dX6_review_29 ⟨Nat.le_of_ble_eq_true rfl, Nat.le_of_ble_eq_true rfl⟩ (fun H locs hP hS => ?_)
        have jn17 : ∀ (v16 : Int32) (H : Heap) (locs : List Loc) (ls : Array Slot), f_X6_review_J50 (f_X6_review_L10 X p0 n) k7 v9 v10 X v16 = some (o) → wP Z (X, M, O) H → va_S (wA Z s.heap.size) s.heap H locs → lv_has ls 6 [(4, .ref (Z.2.2 12 (v9).toNatClampNeg)), (3, .int v9), (2, .int v10), (0, .ref (Z.2.2 0 0)), (1, .int p0)] → W p l e (headSpec ws_X6_review rm_X6_review).room s m args below meth c H locs 1 6 (vx_MQ below (cQi Z (X, M, O) o s.heap.size) (cX Z (X, M, O) o s.heap.size) args s 2 12 (wA Z s.heap.size)) (F0 m 50 ls [.int v16]) := by
          intro v16 H locs ls hk hP hS hl
          unfold f_X6_review_J50 at hk
          refine lv_istore (lv' := [(5, .int v16), (4, .ref (Z.2.2 12 (v9).toNatClampNeg)), (3, .int v9), (2, .int v10), (0, .ref (Z.2.2 0 0)), (1, .int p0)]) hx hb dX6_review_50 hl (by decide) rfl (fun ls hl => ?_)
          refine lv_iload hx hb dX6_review_52 (lv_at hl 0 rfl) ?_
          refine lv_if_eq (tgt := 79) hx hb dX6_review_54 (by decide) (fun cz18 => ?_) (fun cz18 => ?_)
          · have hk := it_t cz18 hk
            refine lv_iinc (v := (v9 + (1 : Int32))) (lv' := [(3, .int (v9 + (1 : Int32))), (5, .int v16), (4, .ref (Z.2.2 12 (v9).toNatClampNeg)), (2, .int v10), (0, .ref (Z.2.2 0 0)), (1, .int p0)]) hx hb dX6_review_79 hl (k := 2) rfl rfl (by decide) rfl (fun ls hl => ?_)
            refine lv_goto (tgt := 10) hx hb dX6_review_82 (by decide) ?_
            exact ih (v9 + (1 : Int32)) v10 _ _ _ hk hP hS (lv_sub hl [0, 3, 4, 5] rfl)
          · have hk := it_f cz18 hk
            refine lv_iload_n hx hb dX6_review_57 rfl (lv_at hl 3 rfl) ?_
            refine lv_iconst (v := ((-1) : Int32)) hx hb dX6_review_58 (by decide) ?_
            refine lv_icmp_eq (tgt := 77) hx hb dX6_review_59 (by decide) (fun cz19 => ?_) (fun cz19 => ?_)
            · have hk := it_t cz19 hk
              refine lv_iload_n hx hb dX6_review_77 rfl (lv_at hl 2 rfl) ?_
              refine lv_istore_n (lv' := [(2, .int v9), (5, .int v16), (4, .ref (Z.2.2 12 (v9).toNatClampNeg)), (3, .int v9), (0, .ref (Z.2.2 0 0)), (1, .int p0)]) hx hb dX6_review_78 rfl hl (by decide) rfl (fun ls hl => ?_)
              refine lv_iinc (v := (v9 + (1 : Int32))) (lv' := [(3, .int (v9 + (1 : Int32))), (2, .int v9), (5, .int v16), (4, .ref (Z.2.2 12 (v9).toNatClampNeg)), (0, .ref (Z.2.2 0 0)), (1, .int p0)]) hx hb dX6_review_79 hl (k := 3) rfl rfl (by decide) rfl (fun ls hl => ?_)
              refine lv_goto (tgt := 10) hx hb dX6_review_82 (by decide) ?_
              exact ih (v9 + (1 : Int32)) v9 _ _ _ hk hP hS (lv_sub hl [0, 1, 4, 5] rfl)
            · have hk := it_f cz19 hk
              refine lv_aload_n hx hb dX6_review_62 rfl (lv_at hl 4 rfl) ?_
              refine lv_aload hx hb dX6_review_63 (lv_at hl 1 rfl) ?_
              refine lv_aload_n hx hb dX6_review_65 rfl (lv_at hl 4 rfl) ?_
              refine gf_RX6_37 hx hb hts hown hK hP (by decide) dX6_review_66 ?_
              refine lv_iload_n hx hb dX6_review_69 rfl (lv_at hl 3 rfl) ?_
              obtain ⟨hg20, hk⟩ := gd_s hk
              refine wa_aaload_23 hx hb hK hP (by decide) hg20 dX6_review_70 ?_
              obtain ⟨v21, hf22, hk⟩ := b0_s hk
              refine wc_iV0 (rest := []) (As := [.ref (Z.2.2 12 (v9).toNatClampNeg), .ref (Z.2.2 12 (v10).toNatClampNeg)]) ⟨hx, hb, hml, hown, hts⟩ (fun sz => k_X6_isReviewedBefore l hfl Z hZ X M O (v9).toNatClampNeg (v10).toNatClampNeg (vp_lt hg13) (vp_lt hg20) v21 hf22 sz) (cw_RX6_315 (args := args) (s := s) hts (Nat.le_of_ble_eq_true rfl) (Nat.le_of_ble_eq_true rfl)) hE hP hK hS (rv_0 hK hP (by decide)) rfl hl.1 rfl (Nat.le_of_ble_eq_true rfl) dX6_review_71 ⟨Nat.le_of_ble_eq_true rfl, Nat.le_of_ble_eq_true rfl⟩ (fun H locs hP hS => ?_)
              refine lv_if_eq (tgt := 79) hx hb dX6_review_74 (by decide) (fun cz23 => ?_) (fun cz23 => ?_)
              · have hk := it_t cz23 hk
                refine lv_iinc (v := (v9 + (1 : Int32))) (lv' := [(3, .int (v9 + (1 : Int32))), (5, .int v16), (4, .ref (Z.2.2 12 (v9).toNatClampNeg)), (2, .int v10), (0, .ref (Z.2.2 0 0)), (1, .int p0)]) hx hb dX6_review_79 hl (k := 2) rfl rfl (by decide) rfl (fun ls hl => ?_)
                refine lv_goto (tgt := 10) hx hb dX6_review_82 (by decide) ?_
                exact ih (v9 + (1 : Int32)) v10 _ _ _ hk hP hS (lv_sub hl [0, 3, 4, 5] rfl)
              · have hk := it_f cz23 hk
                refine lv_iload_n hx hb dX6_review_77 rfl (lv_at hl 2 rfl) ?_
                refine lv_istore_n (lv' := [(2, .int v9), (5, .int v16), (4, .ref (Z.2.2 12 (v9).toNatClampNeg)), (3, .int v9), (0, .ref (Z.2.2 0 0)), (1, .int p0)]) hx hb dX6_review_78 rfl hl (by decide) rfl (fun ls hl => ?_)
                refine lv_iinc (v := (v9 + (1 : Int32))) (lv' := [(3, .int (v9 + (1 : Int32))), (2, .int v9), (5, .int v16), (4, .ref (Z.2.2 12 (v9).toNatClampNeg)), (0, .ref (Z.2.2 0 0)), (1, .int p0)]) hx hb dX6_review_79 hl (k := 3) rfl rfl (by decide) rfl (fun ls hl => ?_)
                refine lv_goto (tgt := 10) hx hb dX6_review_82 (by decide) ?_
                exact ih (v9 + (1 : Int32)) v9 _ _ _ hk hP hS (lv_sub hl [0, 1, 4, 5] rfl)
        have jn24 : ∀ (H : Heap) (locs : List Loc) (ls : Array Slot), f_X6_review_J49 (f_X6_review_L10 X p0 n) k7 v9 v10 X  = some (o) → wP Z (X, M, O) H → va_S (wA Z s.heap.size) s.heap H locs → lv_has ls 6 [(4, .ref (Z.2.2 12 (v9).toNatClampNeg)), (3, .int v9), (2, .int v10), (0, .ref (Z.2.2 0 0)), (1, .int p0)] → W p l e (headSpec ws_X6_review rm_X6_review).room s m args below meth c H locs 1 6 (vx_MQ below (cQi Z (X, M, O) o s.heap.size) (cX Z (X, M, O) o s.heap.size) args s 2 12 (wA Z s.heap.size)) (F0 m 49 ls []) := by
          intro  H locs ls hk hP hS hl
          unfold f_X6_review_J49 at hk
          refine lv_iconst (v := (0 : Int32)) hx hb dX6_review_49 (by decide) ?_
          exact jn17 (0 : Int32) _ _ _ hk hP hS (lv_sub hl [0, 1, 2, 3, 4] rfl)
        refine lv_if_eq (tgt := 49) hx hb dX6_review_32 (by decide) (fun cz25 => ?_) (fun cz25 => ?_)
        · have hk := it_t cz25 hk
          exact jn24 _ _ _ hk hP hS (lv_sub hl [0, 1, 2, 3, 4] rfl)
        · have hk := it_f cz25 hk
          refine lv_aload hx hb dX6_review_35 (lv_at hl 0 rfl) ?_
          refine gf_RX6_312 hx hb hts hown hK hP (vp_lt hg13) dX6_review_37 ?_
          refine lv_iload_n hx hb dX6_review_40 rfl (lv_at hl 4 rfl) ?_
          obtain ⟨hg26, hk⟩ := gd_s hk
          refine wa_iaload_14 hx hb hK hP (vp_lt hg13) hg26 dX6_review_41 ?_
          refine lv_if_ne (tgt := 49) hx hb dX6_review_42 (by decide) (fun cz27 => ?_) (fun cz27 => ?_)
          · have hk := it_f cz27 hk
            exact jn24 _ _ _ hk hP hS (lv_sub hl [0, 1, 2, 3, 4] rfl)
          · have hk := it_t cz27 hk
            refine lv_iconst (v := (1 : Int32)) hx hb dX6_review_45 (by decide) ?_
            refine lv_goto (tgt := 50) hx hb dX6_review_46 (by decide) ?_
            exact jn17 (1 : Int32) _ _ _ hk hP hS (lv_sub hl [0, 1, 2, 3, 4] rfl)
  exact lp7 1000 (0 : Int32) ((-1) : Int32) _ _ _ hk hP hS (lv_sub hl [0, 1, 2, 3] rfl)
set_option maxHeartbeats 4000000 in
set_option maxRecDepth 100000 in
theorem k_X6_best (l : Launch) (hfl : l.stackTraces = false) (Z : ZT) (hZ : wD Z) (X M O : SS) (p0 : Int32) (p1 : Int32) (Xz : SS) (o : Int32 ⊕ String) (hf : f_X6_best X p0 p1 = some (Xz, o)) (sz : Nat) : vx_Met l yX6_best ws_X6_best rm_X6_best (va_Pc [.ref (Z.2.2 0 0), .int p0, .int p1] (cP Z (X, M, O) sz)) (cQi Z (Xz, M, O) o sz) (cX Z (Xz, M, O) o sz) 3 18 (wA Z sz) := by
  refine vx_ofW (cc := cX6_best) (maxL := 3) (ret := (some .int)) (by decide) rfl ?_
  intro p e s m args below meth c s₁ B hml htab hv
  obtain ⟨hargs, hsz, hE, hP, hK⟩ := hv
  have hx := B.exec
  have hb := B.bytes
  have hr := B.returns
  have hts0 := atoms_spec (ws := ws_X6_best) B.pre
  have hts : ∀ w ∈ lw_all, w.before args s = true := fun w h => hts0 w (List.mem_cons_of_mem _ h)
  have hown : s.vm.findClass RX6 = some m.cls := findClass_of_methodNamed B.named
  have hlocks := B.notSynchronized
  have hout9 : ∀ (pc9 : Nat), ∀ x ∈ c.exceptionTable.toList, covers x pc9 = false := fun _ x hx9 => (htab x hx9).elim
  subst hsz
  have hS : va_S (wA Z s.heap.size) s.heap s.heap [] := va_S.rf
  have hl := lv_entry ([.ref (Z.2.2 0 0), .int p0, .int p1]) (n := 3) (Nat.le_of_ble_eq_true rfl)
  have hen : entryFrame m args 3 = entryFrame m ([.ref (Z.2.2 0 0), .int p0, .int p1] : List Value).toArray 3 := by rw [hargs]
  rw [hen, lg_entry_eq]
  generalize (lg_sl ([.ref (Z.2.2 0 0), .int p0, .int p1]) ++ List.replicate (3 - (lg_sl ([.ref (Z.2.2 0 0), .int p0, .int p1])).length) Slot.unset).toArray = ls at hl ⊢
  have hl : lv_has ls 3 [(0, .ref (Z.2.2 0 0)), (1, .int p0), (2, .int p1)] := hl
  have hk := hf
  unfold f_X6_best at hk
  refine lv_aload_n hx hb dX6_best_0 rfl (lv_at hl 0 rfl) ?_
  refine lv_iload_n hx hb dX6_best_1 rfl (lv_at hl 1 rfl) ?_
  obtain ⟨o3, hf2, hn5, he6⟩ := e0_s hk
  refine wc_qV (kd := 9) (rest := []) (As := [.int p0]) ⟨hx, hb, hml, hown, hts⟩ (fun sz => k_X6_memberAt l hfl Z hZ X M O p0 o3 hf2 sz) (cw_RX6_199 (args := args) (s := s) hts (Nat.le_of_ble_eq_true rfl) (Nat.le_of_ble_eq_true rfl)) hE hP hK hS (rv_0 hK hP (by decide)) rfl hl.1 rfl (Nat.le_of_ble_eq_true rfl) dX6_best_2 ⟨Nat.le_of_ble_eq_true rfl, Nat.le_of_ble_eq_true rfl⟩ (fun E4 ce9 q9 H locs hoE hP hS hc9 hv9 hcl9 => ?_) (fun i1 hi1 H locs ho hP hS => ?_)
  · have hk := he6 _ hoE
    cases (show some _ = some _ from hk)
    exact vx_out (hout9 _) hlocks hc9 hv9 hcl9 (fun t8 ht8 hA8 => ⟨(), trivial, ⟨rfl, wP_eq ht8 hP⟩, hS.F ht8⟩) hS.2.2 (by decide) (by decide)
  have hk := hn5 _ ho
  refine lv_pop hx hb dX6_best_5 rfl ?_
  refine lv_aload_n hx hb dX6_best_6 rfl (lv_at hl 0 rfl) ?_
  refine lv_iload_n hx hb dX6_best_7 rfl (lv_at hl 2 rfl) ?_
  obtain ⟨o9, hf8, hn11, he12⟩ := e0_s hk
  refine wc_qV (kd := 7) (rest := []) (As := [.int p1]) ⟨hx, hb, hml, hown, hts⟩ (fun sz => k_X6_kataAt l hfl Z hZ X M O p1 o9 hf8 sz) (cw_RX6_142 (args := args) (s := s) hts (Nat.le_of_ble_eq_true rfl) (Nat.le_of_ble_eq_true rfl)) hE hP hK hS (rv_0 hK hP (by decide)) rfl hl.1 rfl (Nat.le_of_ble_eq_true rfl) dX6_best_8 ⟨Nat.le_of_ble_eq_true rfl, Nat.le_of_ble_eq_true rfl⟩ (fun E10 ce9 q9 H locs hoE hP hS hc9 hv9 hcl9 => ?_) (fun i7 hi7 H locs ho hP hS => ?_)
  · have hk := he12 _ hoE
    cases (show some _ = some _ from hk)
    exact vx_out (hout9 _) hlocks hc9 hv9 hcl9 (fun t8 ht8 hA8 => ⟨(), trivial, ⟨rfl, wP_eq ht8 hP⟩, hS.F ht8⟩) hS.2.2 (by decide) (by decide)
  have hk := hn11 _ ho
  refine lv_pop hx hb dX6_best_11 rfl ?_
  refine lv_aload_n hx hb dX6_best_12 rfl (lv_at hl 0 rfl) ?_
  refine lv_iload_n hx hb dX6_best_13 rfl (lv_at hl 1 rfl) ?_
  obtain ⟨X14, v13, hf15, hk⟩ := b1_s hk
  refine wc_vV0 (rest := []) (As := [.int p0]) ⟨hx, hb, hml, hown, hts⟩ (fun sz => k_X6_takeWorks l hfl Z hZ X M O p0 X14 v13 hf15 sz) (cw_RX6_321 (args := args) (s := s) hts (Nat.le_of_ble_eq_true rfl) (Nat.le_of_ble_eq_true rfl)) hE hP hK hS (rv_0 hK hP (by decide)) rfl hl.1 rfl (Nat.le_of_ble_eq_true rfl) dX6_best_14 ⟨Nat.le_of_ble_eq_true rfl, Nat.le_of_ble_eq_true rfl⟩ (fun H locs hP hS => ?_)
  refine lv_aload_n hx hb dX6_best_17 rfl (lv_at hl 0 rfl) ?_
  refine gf_RX6_45 hx hb hts hown hK hP (by decide) dX6_best_18 ?_
  refine lv_iload_n hx hb dX6_best_21 rfl (lv_at hl 2 rfl) ?_
  obtain ⟨hg16, hk⟩ := gd_s hk
  refine wa_iaload_25 hx hb hK hP (by decide) hg16 dX6_best_22 ?_
  refine lv_iconst (v := ((-1) : Int32)) hx hb dX6_best_23 (by decide) ?_
  refine lv_icmp_ne (tgt := 38) hx hb dX6_best_24 (by decide) (fun cz17 => ?_) (fun cz17 => ?_)
  · have hk := it_f cz17 hk
    refine lv_aload_n hx hb dX6_best_38 rfl (lv_at hl 0 rfl) ?_
    refine gf_RX6_45 hx hb hts hown hK hP (by decide) dX6_best_39 ?_
    refine lv_iload_n hx hb dX6_best_42 rfl (lv_at hl 2 rfl) ?_
    obtain ⟨hg18, hk⟩ := gd_s hk
    refine wa_iaload_25 hx hb hK hP (by decide) hg18 dX6_best_43 ?_
    cases (show some _ = some _ from hk)
    exact we_i hx hb hr hlocks hP rfl hS dX6_best_44 (by decide) (by decide)
  · have hk := it_t cz17 hk
    cases (show some _ = some _ from hk)
    obtain ⟨sa, hstr⟩ := EV.str hE (own := RX6) (k := 325) (tx := "no work of the member counts") (by decide +kernel)
    exact ng_throwSW (mc := 3) (ms := 18) (Y1 := "java/lang/RuntimeException") (r9 := ["java/lang/Exception"]) hx hb hfl hown (by decide +kernel) (by decide +kernel) (by decide +kernel) (hts _ q866) (hts _ q99) hstr (th_190 hE hts) (by decide +kernel) (EV.zu hE) (EV.zn hE) hS (hl.1.trans hml.symm) dX6_best_27 dX6_best_30 dX6_best_31 dX6_best_34 dX6_best_37 (hout9 _) (Nat.le_of_ble_eq_true rfl) (Nat.le_of_ble_eq_true rfl) (Nat.le_of_ble_eq_true rfl) (Nat.le_of_ble_eq_true rfl) hlocks (fun t9 _ h8 h9 => ⟨(), trivial, ⟨rfl, wP_kept hP h9⟩, fF hS h8 h9⟩) hS.2.2 (by decide) (by decide)
set_option maxHeartbeats 4000000 in
set_option maxRecDepth 100000 in
theorem k_X6_pointsOf (l : Launch) (hfl : l.stackTraces = false) (Z : ZT) (hZ : wD Z) (X M O : SS) (p0 : Int32) (Xz : SS) (r : UInt32) (hf : f_X6_pointsOf X p0 = some (Xz, r)) (sz : Nat) : vx_Met l yX6_pointsOf ws_X6_pointsOf rm_X6_pointsOf (va_Pc [.ref (Z.2.2 0 0), .int p0] (cP Z (X, M, O) sz)) (cQf Z (Xz, M, O) (.inl r) sz) (cX Z (Xz, M, O) (.inl r : UInt32 ⊕ String) sz) 0 0 (wA Z sz) := by
  refine vx_ofW (cc := cX6_pointsOf) (maxL := 2) (ret := (some .float)) (by decide) rfl ?_
  intro p e s m args below meth c s₁ B hml htab hv
  obtain ⟨hargs, hsz, hE, hP, hK⟩ := hv
  have hx := B.exec
  have hb := B.bytes
  have hr := B.returns
  have hts0 := atoms_spec (ws := ws_X6_pointsOf) B.pre
  have hts : ∀ w ∈ lw_all, w.before args s = true := fun w h => hts0 w (List.mem_cons_of_mem _ h)
  have hown : s.vm.findClass RX6 = some m.cls := findClass_of_methodNamed B.named
  have hlocks := B.notSynchronized
  have hout9 : ∀ (pc9 : Nat), ∀ x ∈ c.exceptionTable.toList, covers x pc9 = false := fun _ x hx9 => (htab x hx9).elim
  subst hsz
  have hS : va_S (wA Z s.heap.size) s.heap s.heap [] := va_S.rf
  have hl := lv_entry ([.ref (Z.2.2 0 0), .int p0]) (n := 2) (Nat.le_of_ble_eq_true rfl)
  have hen : entryFrame m args 2 = entryFrame m ([.ref (Z.2.2 0 0), .int p0] : List Value).toArray 2 := by rw [hargs]
  rw [hen, lg_entry_eq]
  generalize (lg_sl ([.ref (Z.2.2 0 0), .int p0]) ++ List.replicate (2 - (lg_sl ([.ref (Z.2.2 0 0), .int p0])).length) Slot.unset).toArray = ls at hl ⊢
  have hl : lv_has ls 2 [(0, .ref (Z.2.2 0 0)), (1, .int p0)] := hl
  have hk := hf
  unfold f_X6_pointsOf at hk
  refine lv_aload_n hx hb dX6_pointsOf_0 rfl (lv_at hl 0 rfl) ?_
  refine lv_iload_n hx hb dX6_pointsOf_1 rfl (lv_at hl 1 rfl) ?_
  obtain ⟨X2, v1, hf3, hk⟩ := b1_s hk
  refine wc_vV0 (rest := []) (As := [.int p0]) ⟨hx, hb, hml, hown, hts⟩ (fun sz => k_X6_takeWorks l hfl Z hZ X M O p0 X2 v1 hf3 sz) (cw_RX6_321 (args := args) (s := s) hts (Nat.le_of_ble_eq_true rfl) (Nat.le_of_ble_eq_true rfl)) hE hP hK hS (rv_0 hK hP (by decide)) rfl hl.1 rfl (Nat.le_of_ble_eq_true rfl) dX6_pointsOf_2 ⟨Nat.le_of_ble_eq_true rfl, Nat.le_of_ble_eq_true rfl⟩ (fun H locs hP hS => ?_)
  refine lv_aload_n hx hb dX6_pointsOf_5 rfl (lv_at hl 0 rfl) ?_
  obtain ⟨v4, hf5, hk⟩ := b0_s hk
  refine wc_fV0 (rest := []) (As := []) ⟨hx, hb, hml, hown, hts⟩ (fun sz => k_X6_takenPoints l hfl Z hZ X2 M O v4 hf5 sz) (cw_RX6_447 (args := args) (s := s) hts (Nat.le_of_ble_eq_true rfl) (Nat.le_of_ble_eq_true rfl)) hE hP hK hS (rv_0 hK hP (by decide)) rfl hl.1 rfl (Nat.le_of_ble_eq_true rfl) dX6_pointsOf_6 ⟨Nat.le_of_ble_eq_true rfl, Nat.le_of_ble_eq_true rfl⟩ (fun H locs hP hS => ?_)
  cases (show some _ = some _ from hk)
  exact we_f hx hb hr hlocks hP rfl hS dX6_pointsOf_9 (by decide) (by decide)
set_option maxHeartbeats 4000000 in
set_option maxRecDepth 100000 in
theorem k_X6_points (l : Launch) (hfl : l.stackTraces = false) (Z : ZT) (hZ : wD Z) (X M O : SS) (p0 : Int32) (Xz : SS) (o : UInt32 ⊕ String) (hf : f_X6_points X p0 = some (Xz, o)) (sz : Nat) : vx_Met l yX6_points ws_X6_points rm_X6_points (va_Pc [.ref (Z.2.2 0 0), .int p0] (cP Z (X, M, O) sz)) (cQf Z (Xz, M, O) o sz) (cX Z (Xz, M, O) o sz) 1 6 (wA Z sz) := by
  refine vx_ofW (cc := cX6_points) (maxL := 2) (ret := (some .float)) (by decide) rfl ?_
  intro p e s m args below meth c s₁ B hml htab hv
  obtain ⟨hargs, hsz, hE, hP, hK⟩ := hv
  have hx := B.exec
  have hb := B.bytes
  have hr := B.returns
  have hts0 := atoms_spec (ws := ws_X6_points) B.pre
  have hts : ∀ w ∈ lw_all, w.before args s = true := fun w h => hts0 w (List.mem_cons_of_mem _ h)
  have hown : s.vm.findClass RX6 = some m.cls := findClass_of_methodNamed B.named
  have hlocks := B.notSynchronized
  have hout9 : ∀ (pc9 : Nat), ∀ x ∈ c.exceptionTable.toList, covers x pc9 = false := fun _ x hx9 => (htab x hx9).elim
  subst hsz
  have hS : va_S (wA Z s.heap.size) s.heap s.heap [] := va_S.rf
  have hl := lv_entry ([.ref (Z.2.2 0 0), .int p0]) (n := 2) (Nat.le_of_ble_eq_true rfl)
  have hen : entryFrame m args 2 = entryFrame m ([.ref (Z.2.2 0 0), .int p0] : List Value).toArray 2 := by rw [hargs]
  rw [hen, lg_entry_eq]
  generalize (lg_sl ([.ref (Z.2.2 0 0), .int p0]) ++ List.replicate (2 - (lg_sl ([.ref (Z.2.2 0 0), .int p0])).length) Slot.unset).toArray = ls at hl ⊢
  have hl : lv_has ls 2 [(0, .ref (Z.2.2 0 0)), (1, .int p0)] := hl
  have hk := hf
  unfold f_X6_points at hk
  refine lv_aload_n hx hb dX6_points_0 rfl (lv_at hl 0 rfl) ?_
  refine lv_iload_n hx hb dX6_points_1 rfl (lv_at hl 1 rfl) ?_
  obtain ⟨o3, hf2, hn5, he6⟩ := e0_s hk
  refine wc_qV (kd := 9) (rest := []) (As := [.int p0]) ⟨hx, hb, hml, hown, hts⟩ (fun sz => k_X6_memberAt l hfl Z hZ X M O p0 o3 hf2 sz) (cw_RX6_199 (args := args) (s := s) hts (Nat.le_of_ble_eq_true rfl) (Nat.le_of_ble_eq_true rfl)) hE hP hK hS (rv_0 hK hP (by decide)) rfl hl.1 rfl (Nat.le_of_ble_eq_true rfl) dX6_points_2 ⟨Nat.le_of_ble_eq_true rfl, Nat.le_of_ble_eq_true rfl⟩ (fun E4 ce9 q9 H locs hoE hP hS hc9 hv9 hcl9 => ?_) (fun i1 hi1 H locs ho hP hS => ?_)
  · have hk := he6 _ hoE
    cases (show some _ = some _ from hk)
    exact vx_out (hout9 _) hlocks hc9 hv9 hcl9 (fun t8 ht8 hA8 => ⟨(), trivial, ⟨rfl, wP_eq ht8 hP⟩, hS.F ht8⟩) hS.2.2 (by decide) (by decide)
  have hk := hn5 _ ho
  refine lv_pop hx hb dX6_points_5 rfl ?_
  refine lv_aload_n hx hb dX6_points_6 rfl (lv_at hl 0 rfl) ?_
  refine lv_iload_n hx hb dX6_points_7 rfl (lv_at hl 1 rfl) ?_
  obtain ⟨X8, v7, hf9, hk⟩ := b1_s hk
  refine wc_fV0 (rest := []) (As := [.int p0]) ⟨hx, hb, hml, hown, hts⟩ (fun sz => k_X6_pointsOf l hfl Z hZ X M O p0 X8 v7 hf9 sz) (cw_RX6_327 (args := args) (s := s) hts (Nat.le_of_ble_eq_true rfl) (Nat.le_of_ble_eq_true rfl)) hE hP hK hS (rv_0 hK hP (by decide)) rfl hl.1 rfl (Nat.le_of_ble_eq_true rfl) dX6_points_8 ⟨Nat.le_of_ble_eq_true rfl, Nat.le_of_ble_eq_true rfl⟩ (fun H locs hP hS => ?_)
  cases (show some _ = some _ from hk)
  exact we_f hx hb hr hlocks hP rfl hS dX6_points_11 (by decide) (by decide)
set_option maxHeartbeats 4000000 in
set_option maxRecDepth 100000 in
theorem k_X6_belt (l : Launch) (hfl : l.stackTraces = false) (Z : ZT) (hZ : wD Z) (X M O : SS) (p0 : Int32) (Xz : SS) (o : Int32 ⊕ String) (hf : f_X6_belt X p0 = some (Xz, o)) (sz : Nat) : vx_Met l yX6_belt ws_X6_belt rm_X6_belt (va_Pc [.ref (Z.2.2 0 0), .int p0] (cP Z (X, M, O) sz)) (cQi Z (Xz, M, O) o sz) (cX Z (Xz, M, O) o sz) 1 6 (wA Z sz) := by
  refine vx_ofW (cc := cX6_belt) (maxL := 2) (ret := (some .int)) (by decide) rfl ?_
  intro p e s m args below meth c s₁ B hml htab hv
  obtain ⟨hargs, hsz, hE, hP, hK⟩ := hv
  have hx := B.exec
  have hb := B.bytes
  have hr := B.returns
  have hts0 := atoms_spec (ws := ws_X6_belt) B.pre
  have hts : ∀ w ∈ lw_all, w.before args s = true := fun w h => hts0 w (List.mem_cons_of_mem _ h)
  have hown : s.vm.findClass RX6 = some m.cls := findClass_of_methodNamed B.named
  have hlocks := B.notSynchronized
  have hout9 : ∀ (pc9 : Nat), ∀ x ∈ c.exceptionTable.toList, covers x pc9 = false := fun _ x hx9 => (htab x hx9).elim
  subst hsz
  have hS : va_S (wA Z s.heap.size) s.heap s.heap [] := va_S.rf
  have hl := lv_entry ([.ref (Z.2.2 0 0), .int p0]) (n := 2) (Nat.le_of_ble_eq_true rfl)
  have hen : entryFrame m args 2 = entryFrame m ([.ref (Z.2.2 0 0), .int p0] : List Value).toArray 2 := by rw [hargs]
  rw [hen, lg_entry_eq]
  generalize (lg_sl ([.ref (Z.2.2 0 0), .int p0]) ++ List.replicate (2 - (lg_sl ([.ref (Z.2.2 0 0), .int p0])).length) Slot.unset).toArray = ls at hl ⊢
  have hl : lv_has ls 2 [(0, .ref (Z.2.2 0 0)), (1, .int p0)] := hl
  have hk := hf
  unfold f_X6_belt at hk
  refine lv_aload_n hx hb dX6_belt_0 rfl (lv_at hl 0 rfl) ?_
  refine lv_iload_n hx hb dX6_belt_1 rfl (lv_at hl 1 rfl) ?_
  obtain ⟨o3, hf2, hn5, he6⟩ := e0_s hk
  refine wc_qV (kd := 9) (rest := []) (As := [.int p0]) ⟨hx, hb, hml, hown, hts⟩ (fun sz => k_X6_memberAt l hfl Z hZ X M O p0 o3 hf2 sz) (cw_RX6_199 (args := args) (s := s) hts (Nat.le_of_ble_eq_true rfl) (Nat.le_of_ble_eq_true rfl)) hE hP hK hS (rv_0 hK hP (by decide)) rfl hl.1 rfl (Nat.le_of_ble_eq_true rfl) dX6_belt_2 ⟨Nat.le_of_ble_eq_true rfl, Nat.le_of_ble_eq_true rfl⟩ (fun E4 ce9 q9 H locs hoE hP hS hc9 hv9 hcl9 => ?_) (fun i1 hi1 H locs ho hP hS => ?_)
  · have hk := he6 _ hoE
    cases (show some _ = some _ from hk)
    exact vx_out (hout9 _) hlocks hc9 hv9 hcl9 (fun t8 ht8 hA8 => ⟨(), trivial, ⟨rfl, wP_eq ht8 hP⟩, hS.F ht8⟩) hS.2.2 (by decide) (by decide)
  have hk := hn5 _ ho
  refine lv_pop hx hb dX6_belt_5 rfl ?_
  refine lv_aload_n hx hb dX6_belt_6 rfl (lv_at hl 0 rfl) ?_
  refine lv_iload_n hx hb dX6_belt_7 rfl (lv_at hl 1 rfl) ?_
  obtain ⟨X8, v7, hf9, hk⟩ := b1_s hk
  refine wc_iV0 (rest := []) (As := [.int p0]) ⟨hx, hb, hml, hown, hts⟩ (fun sz => k_X6_beltOf l hfl Z hZ X M O p0 X8 v7 hf9 sz) (cw_RX6_295 (args := args) (s := s) hts (Nat.le_of_ble_eq_true rfl) (Nat.le_of_ble_eq_true rfl)) hE hP hK hS (rv_0 hK hP (by decide)) rfl hl.1 rfl (Nat.le_of_ble_eq_true rfl) dX6_belt_8 ⟨Nat.le_of_ble_eq_true rfl, Nat.le_of_ble_eq_true rfl⟩ (fun H locs hP hS => ?_)
  cases (show some _ = some _ from hk)
  exact we_i hx hb hr hlocks hP rfl hS dX6_belt_11 (by decide) (by decide)
set_option maxHeartbeats 4000000 in
set_option maxRecDepth 100000 in
theorem k_X6_honour (l : Launch) (hfl : l.stackTraces = false) (Z : ZT) (hZ : wD Z) (X M O : SS) (p0 : Int32) (o : Int32 ⊕ String) (hf : f_X6_honour X p0 = some (o)) (sz : Nat) : vx_Met l yX6_honour ws_X6_honour rm_X6_honour (va_Pc [.ref (Z.2.2 0 0), .int p0] (cP Z (X, M, O) sz)) (cQi Z (X, M, O) o sz) (cX Z (X, M, O) o sz) 1 6 (wA Z sz) := by
  refine vx_ofW (cc := cX6_honour) (maxL := 2) (ret := (some .int)) (by decide) rfl ?_
  intro p e s m args below meth c s₁ B hml htab hv
  obtain ⟨hargs, hsz, hE, hP, hK⟩ := hv
  have hx := B.exec
  have hb := B.bytes
  have hr := B.returns
  have hts0 := atoms_spec (ws := ws_X6_honour) B.pre
  have hts : ∀ w ∈ lw_all, w.before args s = true := fun w h => hts0 w (List.mem_cons_of_mem _ h)
  have hown : s.vm.findClass RX6 = some m.cls := findClass_of_methodNamed B.named
  have hlocks := B.notSynchronized
  have hout9 : ∀ (pc9 : Nat), ∀ x ∈ c.exceptionTable.toList, covers x pc9 = false := fun _ x hx9 => (htab x hx9).elim
  subst hsz
  have hS : va_S (wA Z s.heap.size) s.heap s.heap [] := va_S.rf
  have hl := lv_entry ([.ref (Z.2.2 0 0), .int p0]) (n := 2) (Nat.le_of_ble_eq_true rfl)
  have hen : entryFrame m args 2 = entryFrame m ([.ref (Z.2.2 0 0), .int p0] : List Value).toArray 2 := by rw [hargs]
  rw [hen, lg_entry_eq]
  generalize (lg_sl ([.ref (Z.2.2 0 0), .int p0]) ++ List.replicate (2 - (lg_sl ([.ref (Z.2.2 0 0), .int p0])).length) Slot.unset).toArray = ls at hl ⊢
  have hl : lv_has ls 2 [(0, .ref (Z.2.2 0 0)), (1, .int p0)] := hl
  have hk := hf
  unfold f_X6_honour at hk
  refine lv_aload_n hx hb dX6_honour_0 rfl (lv_at hl 0 rfl) ?_
  refine lv_iload_n hx hb dX6_honour_1 rfl (lv_at hl 1 rfl) ?_
  obtain ⟨o3, hf2, hn5, he6⟩ := e0_s hk
  refine wc_qV (kd := 9) (rest := []) (As := [.int p0]) ⟨hx, hb, hml, hown, hts⟩ (fun sz => k_X6_memberAt l hfl Z hZ X M O p0 o3 hf2 sz) (cw_RX6_199 (args := args) (s := s) hts (Nat.le_of_ble_eq_true rfl) (Nat.le_of_ble_eq_true rfl)) hE hP hK hS (rv_0 hK hP (by decide)) rfl hl.1 rfl (Nat.le_of_ble_eq_true rfl) dX6_honour_2 ⟨Nat.le_of_ble_eq_true rfl, Nat.le_of_ble_eq_true rfl⟩ (fun E4 ce9 q9 H locs hoE hP hS hc9 hv9 hcl9 => ?_) (fun i1 hi1 H locs ho hP hS => ?_)
  · have hk := he6 _ hoE
    cases (show some _ = some _ from hk)
    exact vx_out (hout9 _) hlocks hc9 hv9 hcl9 (fun t8 ht8 hA8 => ⟨(), trivial, ⟨rfl, wP_eq ht8 hP⟩, hS.F ht8⟩) hS.2.2 (by decide) (by decide)
  have hk := hn5 _ ho
  refine gf_RX6_331 hx hb hts hown hK hP hi1 dX6_honour_5 ?_
  cases (show some _ = some _ from hk)
  exact we_i hx hb hr hlocks hP rfl hS dX6_honour_8 (by decide) (by decide)
set_option maxHeartbeats 4000000 in
set_option maxRecDepth 100000 in
theorem k_X6_isRankedBefore (l : Launch) (hfl : l.stackTraces = false) (Z : ZT) (hZ : wD Z) (X M O : SS) (p0 : Int32) (p1 : Int32) (Xz : SS) (r : Int32) (hf : f_X6_isRankedBefore X p0 p1 = some (Xz, r)) (sz : Nat) : vx_Met l yX6_isRankedBefore ws_X6_isRankedBefore rm_X6_isRankedBefore (va_Pc [.ref (Z.2.2 0 0), .int p0, .int p1] (cP Z (X, M, O) sz)) (cQi Z (Xz, M, O) (.inl r) sz) (cX Z (Xz, M, O) (.inl r : Int32 ⊕ String) sz) 0 0 (wA Z sz) := by
  refine vx_ofW (cc := cX6_isRankedBefore) (maxL := 7) (ret := (some .boolean)) (by decide) rfl ?_
  intro p e s m args below meth c s₁ B hml htab hv
  obtain ⟨hargs, hsz, hE, hP, hK⟩ := hv
  have hx := B.exec
  have hb := B.bytes
  have hr := B.returns
  have hts0 := atoms_spec (ws := ws_X6_isRankedBefore) B.pre
  have hts : ∀ w ∈ lw_all, w.before args s = true := fun w h => hts0 w (List.mem_cons_of_mem _ h)
  have hown : s.vm.findClass RX6 = some m.cls := findClass_of_methodNamed B.named
  have hlocks := B.notSynchronized
  have hout9 : ∀ (pc9 : Nat), ∀ x ∈ c.exceptionTable.toList, covers x pc9 = false := fun _ x hx9 => (htab x hx9).elim
  subst hsz
  have hS : va_S (wA Z s.heap.size) s.heap s.heap [] := va_S.rf
  have hl := lv_entry ([.ref (Z.2.2 0 0), .int p0, .int p1]) (n := 7) (Nat.le_of_ble_eq_true rfl)
  have hen : entryFrame m args 7 = entryFrame m ([.ref (Z.2.2 0 0), .int p0, .int p1] : List Value).toArray 7 := by rw [hargs]
  rw [hen, lg_entry_eq]
  generalize (lg_sl ([.ref (Z.2.2 0 0), .int p0, .int p1]) ++ List.replicate (7 - (lg_sl ([.ref (Z.2.2 0 0), .int p0, .int p1])).length) Slot.unset).toArray = ls at hl ⊢
  have hl : lv_has ls 7 [(0, .ref (Z.2.2 0 0)), (1, .int p0), (2, .int p1)] := hl
  have hk := hf
  unfold f_X6_isRankedBefore at hk
  refine lv_aload_n hx hb dX6_isRankedBefore_0 rfl (lv_at hl 0 rfl) ?_
  refine lv_iload_n hx hb dX6_isRankedBefore_1 rfl (lv_at hl 1 rfl) ?_
  obtain ⟨X2, v1, hf3, hk⟩ := b1_s hk
  refine wc_iV0 (rest := []) (As := [.int p0]) ⟨hx, hb, hml, hown, hts⟩ (fun sz => k_X6_beltOf l hfl Z hZ X M O p0 X2 v1 hf3 sz) (cw_RX6_295 (args := args) (s := s) hts (Nat.le_of_ble_eq_true rfl) (Nat.le_of_ble_eq_true rfl)) hE hP hK hS (rv_0 hK hP (by decide)) rfl hl.1 rfl (Nat.le_of_ble_eq_true rfl) dX6_isRankedBefore_2 ⟨Nat.le_of_ble_eq_true rfl, Nat.le_of_ble_eq_true rfl⟩ (fun H locs hP hS => ?_)
  refine lv_istore_n (lv' := [(3, .int v1), (0, .ref (Z.2.2 0 0)), (1, .int p0), (2, .int p1)]) hx hb dX6_isRankedBefore_5 rfl hl (by decide) rfl (fun ls hl => ?_)
  refine lv_aload_n hx hb dX6_isRankedBefore_6 rfl (lv_at hl 1 rfl) ?_
  refine lv_iload_n hx hb dX6_isRankedBefore_7 rfl (lv_at hl 3 rfl) ?_
  obtain ⟨X5, v4, hf6, hk⟩ := b1_s hk
  refine wc_iV0 (rest := []) (As := [.int p1]) ⟨hx, hb, hml, hown, hts⟩ (fun sz => k_X6_beltOf l hfl Z hZ X2 M O p1 X5 v4 hf6 sz) (cw_RX6_295 (args := args) (s := s) hts (Nat.le_of_ble_eq_true rfl) (Nat.le_of_ble_eq_true rfl)) hE hP hK hS (rv_0 hK hP (by decide)) rfl hl.1 rfl (Nat.le_of_ble_eq_true rfl) dX6_isRankedBefore_8 ⟨Nat.le_of_ble_eq_true rfl, Nat.le_of_ble_eq_true rfl⟩ (fun H locs hP hS => ?_)
  refine lv_istore (lv' := [(4, .int v4), (3, .int v1), (0, .ref (Z.2.2 0 0)), (1, .int p0), (2, .int p1)]) hx hb dX6_isRankedBefore_11 hl (by decide) rfl (fun ls hl => ?_)
  refine lv_iload_n hx hb dX6_isRankedBefore_13 rfl (lv_at hl 1 rfl) ?_
  refine lv_iload hx hb dX6_isRankedBefore_14 (lv_at hl 0 rfl) ?_
  refine lv_icmp_eq (tgt := 31) hx hb dX6_isRankedBefore_16 (by decide) (fun cz7 => ?_) (fun cz7 => ?_)
  · have hk := it_t cz7 hk
    refine lv_aload_n hx hb dX6_isRankedBefore_31 rfl (lv_at hl 2 rfl) ?_
    refine lv_iload_n hx hb dX6_isRankedBefore_32 rfl (lv_at hl 3 rfl) ?_
    obtain ⟨X9, v8, hf10, hk⟩ := b1_s hk
    refine wc_fV0 (rest := []) (As := [.int p0]) ⟨hx, hb, hml, hown, hts⟩ (fun sz => k_X6_pointsOf l hfl Z hZ X5 M O p0 X9 v8 hf10 sz) (cw_RX6_327 (args := args) (s := s) hts (Nat.le_of_ble_eq_true rfl) (Nat.le_of_ble_eq_true rfl)) hE hP hK hS (rv_0 hK hP (by decide)) rfl hl.1 rfl (Nat.le_of_ble_eq_true rfl) dX6_isRankedBefore_33 ⟨Nat.le_of_ble_eq_true rfl, Nat.le_of_ble_eq_true rfl⟩ (fun H locs hP hS => ?_)
    refine lv_fstore (lv' := [(5, .float v8), (4, .int v4), (3, .int v1), (0, .ref (Z.2.2 0 0)), (1, .int p0), (2, .int p1)]) hx hb dX6_isRankedBefore_36 hl (by decide) rfl (fun ls hl => ?_)
    refine lv_aload_n hx hb dX6_isRankedBefore_38 rfl (lv_at hl 3 rfl) ?_
    refine lv_iload_n hx hb dX6_isRankedBefore_39 rfl (lv_at hl 5 rfl) ?_
    obtain ⟨X12, v11, hf13, hk⟩ := b1_s hk
    refine wc_fV0 (rest := []) (As := [.int p1]) ⟨hx, hb, hml, hown, hts⟩ (fun sz => k_X6_pointsOf l hfl Z hZ X9 M O p1 X12 v11 hf13 sz) (cw_RX6_327 (args := args) (s := s) hts (Nat.le_of_ble_eq_true rfl) (Nat.le_of_ble_eq_true rfl)) hE hP hK hS (rv_0 hK hP (by decide)) rfl hl.1 rfl (Nat.le_of_ble_eq_true rfl) dX6_isRankedBefore_40 ⟨Nat.le_of_ble_eq_true rfl, Nat.le_of_ble_eq_true rfl⟩ (fun H locs hP hS => ?_)
    refine lv_fstore (lv' := [(6, .float v11), (5, .float v8), (4, .int v4), (3, .int v1), (0, .ref (Z.2.2 0 0)), (1, .int p0), (2, .int p1)]) hx hb dX6_isRankedBefore_43 hl (by decide) rfl (fun ls hl => ?_)
    refine lv_fload hx hb dX6_isRankedBefore_45 (lv_at hl 1 rfl) ?_
    refine lv_fload hx hb dX6_isRankedBefore_47 (lv_at hl 0 rfl) ?_
    refine lv_fcmp hx hb dX6_isRankedBefore_49 ?_
    refine lv_if_eq (tgt := 67) hx hb dX6_isRankedBefore_50 (by decide) (fun cz14 => ?_) (fun cz14 => ?_)
    · have hk := it_t cz14 hk
      refine lv_iload_n hx hb dX6_isRankedBefore_67 rfl (lv_at hl 5 rfl) ?_
      refine lv_iload_n hx hb dX6_isRankedBefore_68 rfl (lv_at hl 6 rfl) ?_
      refine lv_icmp_ge (tgt := 76) hx hb dX6_isRankedBefore_69 (by decide) (fun cz15 => ?_) (fun cz15 => ?_)
      · have hk := it_t cz15 hk
        refine lv_iconst (v := (0 : Int32)) hx hb dX6_isRankedBefore_76 (by decide) ?_
        cases (show some _ = some _ from hk)
        exact we_z hx hb hr hlocks (show okz (0 : Int32) by unfold okz; decide).1 hP rfl hS dX6_isRankedBefore_77 (by decide) (by decide)
      · have hk := it_f cz15 hk
        refine lv_iconst (v := (1 : Int32)) hx hb dX6_isRankedBefore_72 (by decide) ?_
        refine lv_goto (tgt := 77) hx hb dX6_isRankedBefore_73 (by decide) ?_
        cases (show some _ = some _ from hk)
        exact we_z hx hb hr hlocks (show okz (1 : Int32) by unfold okz; decide).1 hP rfl hS dX6_isRankedBefore_77 (by decide) (by decide)
    · have hk := it_f cz14 hk
      refine lv_fload hx hb dX6_isRankedBefore_53 (lv_at hl 1 rfl) ?_
      refine lv_fload hx hb dX6_isRankedBefore_55 (lv_at hl 0 rfl) ?_
      refine lv_fcmp hx hb dX6_isRankedBefore_57 ?_
      refine lv_if_le (tgt := 65) hx hb dX6_isRankedBefore_58 (by decide) (fun cz16 => ?_) (fun cz16 => ?_)
      · have hk := it_t cz16 hk
        refine lv_iconst (v := (0 : Int32)) hx hb dX6_isRankedBefore_65 (by decide) ?_
        cases (show some _ = some _ from hk)
        exact we_z hx hb hr hlocks (show okz (0 : Int32) by unfold okz; decide).1 hP rfl hS dX6_isRankedBefore_66 (by decide) (by decide)
      · have hk := it_f cz16 hk
        refine lv_iconst (v := (1 : Int32)) hx hb dX6_isRankedBefore_61 (by decide) ?_
        refine lv_goto (tgt := 66) hx hb dX6_isRankedBefore_62 (by decide) ?_
        cases (show some _ = some _ from hk)
        exact we_z hx hb hr hlocks (show okz (1 : Int32) by unfold okz; decide).1 hP rfl hS dX6_isRankedBefore_66 (by decide) (by decide)
  · have hk := it_f cz7 hk
    refine lv_iload_n hx hb dX6_isRankedBefore_19 rfl (lv_at hl 1 rfl) ?_
    refine lv_iload hx hb dX6_isRankedBefore_20 (lv_at hl 0 rfl) ?_
    refine lv_icmp_le (tgt := 29) hx hb dX6_isRankedBefore_22 (by decide) (fun cz17 => ?_) (fun cz17 => ?_)
    · have hk := it_t cz17 hk
      refine lv_iconst (v := (0 : Int32)) hx hb dX6_isRankedBefore_29 (by decide) ?_
      cases (show some _ = some _ from hk)
      exact we_z hx hb hr hlocks (show okz (0 : Int32) by unfold okz; decide).1 hP rfl hS dX6_isRankedBefore_30 (by decide) (by decide)
    · have hk := it_f cz17 hk
      refine lv_iconst (v := (1 : Int32)) hx hb dX6_isRankedBefore_25 (by decide) ?_
      refine lv_goto (tgt := 30) hx hb dX6_isRankedBefore_26 (by decide) ?_
      cases (show some _ = some _ from hk)
      exact we_z hx hb hr hlocks (show okz (1 : Int32) by unfold okz; decide).1 hP rfl hS dX6_isRankedBefore_30 (by decide) (by decide)
set_option maxHeartbeats 4000000 in
set_option maxRecDepth 100000 in
theorem k_X6_ranked (l : Launch) (hfl : l.stackTraces = false) (Z : ZT) (hZ : wD Z) (X M O : SS) (p0 : Int32) (Xz : SS) (o : Int32 ⊕ String) (hf : f_X6_ranked X p0 = some (Xz, o)) (sz : Nat) : vx_Met l yX6_ranked ws_X6_ranked rm_X6_ranked (va_Pc [.ref (Z.2.2 0 0), .int p0] (cP Z (X, M, O) sz)) (cQi Z (Xz, M, O) o sz) (cX Z (Xz, M, O) o sz) 1 6 (wA Z sz) := by
  refine vx_ofW (cc := cX6_ranked) (maxL := 5) (ret := (some .int)) (by decide) rfl ?_
  intro p e s m args below meth c s₁ B hml htab hv
  obtain ⟨hargs, hsz, hE, hP, hK⟩ := hv
  have hx := B.exec
  have hb := B.bytes
  have hr := B.returns
  have hts0 := atoms_spec (ws := ws_X6_ranked) B.pre
  have hts : ∀ w ∈ lw_all, w.before args s = true := fun w h => hts0 w (List.mem_cons_of_mem _ h)
  have hown : s.vm.findClass RX6 = some m.cls := findClass_of_methodNamed B.named
  have hlocks := B.notSynchronized
  have hout9 : ∀ (pc9 : Nat), ∀ x ∈ c.exceptionTable.toList, covers x pc9 = false := fun _ x hx9 => (htab x hx9).elim
  subst hsz
  have hS : va_S (wA Z s.heap.size) s.heap s.heap [] := va_S.rf
  have hl := lv_entry ([.ref (Z.2.2 0 0), .int p0]) (n := 5) (Nat.le_of_ble_eq_true rfl)
  have hen : entryFrame m args 5 = entryFrame m ([.ref (Z.2.2 0 0), .int p0] : List Value).toArray 5 := by rw [hargs]
  rw [hen, lg_entry_eq]
  generalize (lg_sl ([.ref (Z.2.2 0 0), .int p0]) ++ List.replicate (5 - (lg_sl ([.ref (Z.2.2 0 0), .int p0])).length) Slot.unset).toArray = ls at hl ⊢
  have hl : lv_has ls 5 [(0, .ref (Z.2.2 0 0)), (1, .int p0)] := hl
  have hk := hf
  unfold f_X6_ranked at hk
  refine lv_iconst (v := (0 : Int32)) hx hb dX6_ranked_0 (by decide) ?_
  refine lv_istore_n (lv' := [(2, .int (0 : Int32)), (0, .ref (Z.2.2 0 0)), (1, .int p0)]) hx hb dX6_ranked_1 rfl hl (by decide) rfl (fun ls hl => ?_)
  obtain ⟨k1, hk1, hk⟩ := gn hk
  have ex1 : ∀ (X2 : SS) (H : Heap) (locs : List Loc) (ls : Array Slot), k1 X2 = some (Xz, o) → wP Z (X2, M, O) H → va_S (wA Z s.heap.size) s.heap H locs → lv_has ls 5 [] → W p l e (headSpec ws_X6_ranked rm_X6_ranked).room s m args below meth c H locs 0 0 (vx_MQ below (cQi Z (Xz, M, O) o s.heap.size) (cX Z (Xz, M, O) o s.heap.size) args s 1 6 (wA Z s.heap.size)) (F0 m 61 ls []) := by
    intro X2 H locs ls hk hP hS hl
    subst hk1
    cases (show some _ = some _ from hk)
    obtain ⟨sa, hstr⟩ := EV.str hE (own := RX6) (k := 338) (tx := "no such place") (by decide +kernel)
    exact ng_throwSW (mc := 1) (ms := 6) (Y1 := "java/lang/RuntimeException") (r9 := ["java/lang/Exception"]) hx hb hfl hown (by decide +kernel) (by decide +kernel) (by decide +kernel) (hts _ q866) (hts _ q99) hstr (th_190 hE hts) (by decide +kernel) (EV.zu hE) (EV.zn hE) hS (hl.1.trans hml.symm) dX6_ranked_61 dX6_ranked_64 dX6_ranked_65 dX6_ranked_68 dX6_ranked_71 (hout9 _) (Nat.le_of_ble_eq_true rfl) (Nat.le_of_ble_eq_true rfl) (Nat.le_of_ble_eq_true rfl) (Nat.le_of_ble_eq_true rfl) hlocks (fun t9 _ h8 h9 => ⟨(), trivial, ⟨rfl, wP_kept hP h9⟩, fF hS h8 h9⟩) hS.2.2 (by decide) (by decide)
  have lp1 : ∀ (n : Nat) (v3 : Int32) (X4 : SS) (H : Heap) (locs : List Loc) (ls : Array Slot), f_X6_ranked_L2 p0 n v3 X4 k1 = some (Xz, o) → wP Z (X4, M, O) H → va_S (wA Z s.heap.size) s.heap H locs → lv_has ls 5 [(2, .int v3), (0, .ref (Z.2.2 0 0)), (1, .int p0)] → W p l e (headSpec ws_X6_ranked rm_X6_ranked).room s m args below meth c H locs 0 0 (vx_MQ below (cQi Z (Xz, M, O) o s.heap.size) (cX Z (Xz, M, O) o s.heap.size) args s 1 6 (wA Z s.heap.size)) (F0 m 2 ls []) := by
    intro n
    induction n with
    | zero =>
      intro v3 X4 H locs ls hk
      rw [f_X6_ranked_L2] at hk
      exact nomatch (show none = some _ from hk)
    | succ n ih =>
      intro v3 X4 H locs ls hk hP hS hl
      rw [f_X6_ranked_L2] at hk
      refine lv_iload_n hx hb dX6_ranked_2 rfl (lv_at hl 0 rfl) ?_
      refine lv_aload_n hx hb dX6_ranked_3 rfl (lv_at hl 1 rfl) ?_
      refine gf_RX6_62 hx hb hts hown hK hP (by decide) dX6_ranked_4 ?_
      refine lv_icmp_ge (tgt := 61) hx hb dX6_ranked_7 (by decide) (fun cz5 => ?_) (fun cz5 => ?_)
      · have hk := it_t cz5 hk
        exact ex1 X4 _ _ _ hk hP hS (lv_sub hl [] rfl)
      · have hk := it_f cz5 hk
        refine lv_iconst (v := (0 : Int32)) hx hb dX6_ranked_10 (by decide) ?_
        refine lv_istore_n (lv' := [(3, .int (0 : Int32)), (2, .int v3), (0, .ref (Z.2.2 0 0)), (1, .int p0)]) hx hb dX6_ranked_11 rfl hl (by decide) rfl (fun ls hl => ?_)
        refine lv_iconst (v := (0 : Int32)) hx hb dX6_ranked_12 (by decide) ?_
        refine lv_istore (lv' := [(4, .int (0 : Int32)), (3, .int (0 : Int32)), (2, .int v3), (0, .ref (Z.2.2 0 0)), (1, .int p0)]) hx hb dX6_ranked_13 hl (by decide) rfl (fun ls hl => ?_)
        obtain ⟨k6, hk6, hk⟩ := gn hk
        have ex6 : ∀ (v7 : Int32) (X8 : SS) (H : Heap) (locs : List Loc) (ls : Array Slot), k6 v7 X8 = some (Xz, o) → wP Z (X8, M, O) H → va_S (wA Z s.heap.size) s.heap H locs → lv_has ls 5 [(3, .int v7), (2, .int v3), (0, .ref (Z.2.2 0 0)), (1, .int p0)] → W p l e (headSpec ws_X6_ranked rm_X6_ranked).room s m args below meth c H locs 0 0 (vx_MQ below (cQi Z (Xz, M, O) o s.heap.size) (cX Z (Xz, M, O) o s.heap.size) args s 1 6 (wA Z s.heap.size)) (F0 m 48 ls []) := by
          intro v7 X8 H locs ls hk hP hS hl
          subst hk6
          refine lv_iload_n hx hb dX6_ranked_48 rfl (lv_at hl 0 rfl) ?_
          refine lv_iload_n hx hb dX6_ranked_49 rfl (lv_at hl 3 rfl) ?_
          refine lv_icmp_ne (tgt := 55) hx hb dX6_ranked_50 (by decide) (fun cz12 => ?_) (fun cz12 => ?_)
          · have hk := it_f cz12 hk
            refine lv_iinc (v := (v3 + (1 : Int32))) (lv' := [(2, .int (v3 + (1 : Int32))), (3, .int v7), (0, .ref (Z.2.2 0 0)), (1, .int p0)]) hx hb dX6_ranked_55 hl (k := 1) rfl rfl (by decide) rfl (fun ls hl => ?_)
            refine lv_goto (tgt := 2) hx hb dX6_ranked_58 (by decide) ?_
            exact ih (v3 + (1 : Int32)) X8 _ _ _ hk hP hS (lv_sub hl [0, 2, 3] rfl)
          · have hk := it_t cz12 hk
            refine lv_iload_n hx hb dX6_ranked_53 rfl (lv_at hl 1 rfl) ?_
            cases (show some _ = some _ from hk)
            exact we_i hx hb hr hlocks hP rfl hS dX6_ranked_54 (by decide) (by decide)
        have lp6 : ∀ (n : Nat) (v9 : Int32) (v10 : Int32) (X11 : SS) (H : Heap) (locs : List Loc) (ls : Array Slot), f_X6_ranked_L15 v3 n v9 v10 X11 k6 = some (Xz, o) → wP Z (X11, M, O) H → va_S (wA Z s.heap.size) s.heap H locs → lv_has ls 5 [(4, .int v9), (3, .int v10), (2, .int v3), (0, .ref (Z.2.2 0 0)), (1, .int p0)] → W p l e (headSpec ws_X6_ranked rm_X6_ranked).room s m args below meth c H locs 0 0 (vx_MQ below (cQi Z (Xz, M, O) o s.heap.size) (cX Z (Xz, M, O) o s.heap.size) args s 1 6 (wA Z s.heap.size)) (F0 m 15 ls []) := by
          intro n
          induction n with
          | zero =>
            intro v9 v10 X11 H locs ls hk
            rw [f_X6_ranked_L15] at hk
            exact nomatch (show none = some _ from hk)
          | succ n ih =>
            intro v9 v10 X11 H locs ls hk hP hS hl
            rw [f_X6_ranked_L15] at hk
            refine lv_iload hx hb dX6_ranked_15 (lv_at hl 0 rfl) ?_
            refine lv_aload_n hx hb dX6_ranked_17 rfl (lv_at hl 3 rfl) ?_
            refine gf_RX6_62 hx hb hts hown hK hP (by decide) dX6_ranked_18 ?_
            refine lv_icmp_ge (tgt := 48) hx hb dX6_ranked_21 (by decide) (fun cz13 => ?_) (fun cz13 => ?_)
            · have hk := it_t cz13 hk
              exact ex6 v10 X11 _ _ _ hk hP hS (lv_sub hl [1, 2, 3, 4] rfl)
            · have hk := it_f cz13 hk
              refine lv_iload_n hx hb dX6_ranked_24 rfl (lv_at hl 1 rfl) ?_
              refine lv_aload_n hx hb dX6_ranked_25 rfl (lv_at hl 3 rfl) ?_
              refine lv_iload hx hb dX6_ranked_26 (lv_at hl 0 rfl) ?_
              refine lv_iload_n hx hb dX6_ranked_28 rfl (lv_at hl 2 rfl) ?_
              obtain ⟨X15, v14, hf16, hk⟩ := b1_s hk
              refine wc_iV0 (rest := [.int v10]) (As := [.int v9, .int v3]) ⟨hx, hb, hml, hown, hts⟩ (fun sz => k_X6_isRankedBefore l hfl Z hZ X11 M O v9 v3 X15 v14 hf16 sz) (cw_RX6_334 (args := args) (s := s) hts (Nat.le_of_ble_eq_true rfl) (Nat.le_of_ble_eq_true rfl)) hE hP hK hS (rv_0 hK hP (by decide)) rfl hl.1 rfl (Nat.le_of_ble_eq_true rfl) dX6_ranked_29 ⟨Nat.le_of_ble_eq_true rfl, Nat.le_of_ble_eq_true rfl⟩ (fun H locs hP hS => ?_)
              refine lv_if_eq (tgt := 39) hx hb dX6_ranked_32 (by decide) (fun cz17 => ?_) (fun cz17 => ?_)
              · have hk := it_t cz17 hk
                refine lv_iconst (v := (0 : Int32)) hx hb dX6_ranked_39 (by decide) ?_
                refine lv_iadd hx hb dX6_ranked_40 ?_
                obtain ⟨v18, ev18, hk⟩ := lq_s hk
                refine W.eq (g2 := F0 m 41 ls [.int v18]) (by rw [ev18]) ?_
                refine lv_istore_n (lv' := [(3, .int v18), (4, .int v9), (2, .int v3), (0, .ref (Z.2.2 0 0)), (1, .int p0)]) hx hb dX6_ranked_41 rfl hl (by decide) rfl (fun ls hl => ?_)
                refine lv_iinc (v := (v9 + (1 : Int32))) (lv' := [(4, .int (v9 + (1 : Int32))), (3, .int v18), (2, .int v3), (0, .ref (Z.2.2 0 0)), (1, .int p0)]) hx hb dX6_ranked_42 hl (k := 1) rfl rfl (by decide) rfl (fun ls hl => ?_)
                refine lv_goto (tgt := 15) hx hb dX6_ranked_45 (by decide) ?_
                exact ih (v9 + (1 : Int32)) v18 X15 _ _ _ hk hP hS (lv_sub hl [0, 1, 2, 3, 4] rfl)
              · have hk := it_f cz17 hk
                refine lv_iconst (v := (1 : Int32)) hx hb dX6_ranked_35 (by decide) ?_
                refine lv_goto (tgt := 40) hx hb dX6_ranked_36 (by decide) ?_
                refine lv_iadd hx hb dX6_ranked_40 ?_
                obtain ⟨v19, ev19, hk⟩ := lq_s hk
                refine W.eq (g2 := F0 m 41 ls [.int v19]) (by rw [ev19]) ?_
                refine lv_istore_n (lv' := [(3, .int v19), (4, .int v9), (2, .int v3), (0, .ref (Z.2.2 0 0)), (1, .int p0)]) hx hb dX6_ranked_41 rfl hl (by decide) rfl (fun ls hl => ?_)
                refine lv_iinc (v := (v9 + (1 : Int32))) (lv' := [(4, .int (v9 + (1 : Int32))), (3, .int v19), (2, .int v3), (0, .ref (Z.2.2 0 0)), (1, .int p0)]) hx hb dX6_ranked_42 hl (k := 1) rfl rfl (by decide) rfl (fun ls hl => ?_)
                refine lv_goto (tgt := 15) hx hb dX6_ranked_45 (by decide) ?_
                exact ih (v9 + (1 : Int32)) v19 X15 _ _ _ hk hP hS (lv_sub hl [0, 1, 2, 3, 4] rfl)
        exact lp6 1000 (0 : Int32) (0 : Int32) X4 _ _ _ hk hP hS (lv_sub hl [0, 1, 2, 3, 4] rfl)
  exact lp1 1000 (0 : Int32) X _ _ _ hk hP hS (lv_sub hl [0, 1, 2] rfl)
set_option maxHeartbeats 4000000 in
set_option maxRecDepth 100000 in
theorem k_X6_challenge (l : Launch) (hfl : l.stackTraces = false) (Z : ZT) (hZ : wD Z) (X M O : SS) (p0 : Int32) (p1 : Int32) (Xz : SS) (o : Int32 ⊕ String) (hf : f_X6_challenge X p0 p1 = some (Xz, o)) (sz : Nat) : vx_Met l yX6_challenge ws_X6_challenge rm_X6_challenge (va_Pc [.ref (Z.2.2 0 0), .int p0, .int p1] (cP Z (X, M, O) sz)) (cQi Z (Xz, M, O) o sz) (cX Z (Xz, M, O) o sz) 3 18 (wA Z sz) := by
  refine vx_ofW (cc := cX6_challenge) (maxL := 5) (ret := (some .int)) (by decide) rfl ?_
  intro p e s m args below meth c s₁ B hml htab hv
  obtain ⟨hargs, hsz, hE, hP, hK⟩ := hv
  have hx := B.exec
  have hb := B.bytes
  have hr := B.returns
  have hts0 := atoms_spec (ws := ws_X6_challenge) B.pre
  have hts : ∀ w ∈ lw_all, w.before args s = true := fun w h => hts0 w (List.mem_cons_of_mem _ h)
  have hown : s.vm.findClass RX6 = some m.cls := findClass_of_methodNamed B.named
  have hlocks := B.notSynchronized
  have hout9 : ∀ (pc9 : Nat), ∀ x ∈ c.exceptionTable.toList, covers x pc9 = false := fun _ x hx9 => (htab x hx9).elim
  subst hsz
  have hS : va_S (wA Z s.heap.size) s.heap s.heap [] := va_S.rf
  have hl := lv_entry ([.ref (Z.2.2 0 0), .int p0, .int p1]) (n := 5) (Nat.le_of_ble_eq_true rfl)
  have hen : entryFrame m args 5 = entryFrame m ([.ref (Z.2.2 0 0), .int p0, .int p1] : List Value).toArray 5 := by rw [hargs]
  rw [hen, lg_entry_eq]
  generalize (lg_sl ([.ref (Z.2.2 0 0), .int p0, .int p1]) ++ List.replicate (5 - (lg_sl ([.ref (Z.2.2 0 0), .int p0, .int p1])).length) Slot.unset).toArray = ls at hl ⊢
  have hl : lv_has ls 5 [(0, .ref (Z.2.2 0 0)), (1, .int p0), (2, .int p1)] := hl
  have hk := hf
  unfold f_X6_challenge at hk
  refine lv_aload_n hx hb dX6_challenge_0 rfl (lv_at hl 0 rfl) ?_
  refine lv_iload_n hx hb dX6_challenge_1 rfl (lv_at hl 1 rfl) ?_
  obtain ⟨o3, hf2, hn5, he6⟩ := e0_s hk
  refine wc_qV (kd := 9) (rest := []) (As := [.int p0]) ⟨hx, hb, hml, hown, hts⟩ (fun sz => k_X6_memberAt l hfl Z hZ X M O p0 o3 hf2 sz) (cw_RX6_199 (args := args) (s := s) hts (Nat.le_of_ble_eq_true rfl) (Nat.le_of_ble_eq_true rfl)) hE hP hK hS (rv_0 hK hP (by decide)) rfl hl.1 rfl (Nat.le_of_ble_eq_true rfl) dX6_challenge_2 ⟨Nat.le_of_ble_eq_true rfl, Nat.le_of_ble_eq_true rfl⟩ (fun E4 ce9 q9 H locs hoE hP hS hc9 hv9 hcl9 => ?_) (fun i1 hi1 H locs ho hP hS => ?_)
  · have hk := he6 _ hoE
    cases (show some _ = some _ from hk)
    exact vx_out (hout9 _) hlocks hc9 hv9 hcl9 (fun t8 ht8 hA8 => ⟨(), trivial, ⟨rfl, wP_eq ht8 hP⟩, hS.F ht8⟩) hS.2.2 (by decide) (by decide)
  have hk := hn5 _ ho
  refine lv_astore_n (lv' := [(3, .ref (Z.2.2 9 i1)), (0, .ref (Z.2.2 0 0)), (1, .int p0), (2, .int p1)]) hx hb dX6_challenge_5 rfl hl (by decide) rfl (fun ls hl => ?_)
  refine lv_aload_n hx hb dX6_challenge_6 rfl (lv_at hl 1 rfl) ?_
  refine lv_iload_n hx hb dX6_challenge_7 rfl (lv_at hl 3 rfl) ?_
  obtain ⟨o9, hf8, hn11, he12⟩ := e0_s hk
  refine wc_qV (kd := 12) (rest := []) (As := [.int p1]) ⟨hx, hb, hml, hown, hts⟩ (fun sz => k_X6_workAt l hfl Z hZ X M O p1 o9 hf8 sz) (cw_RX6_219 (args := args) (s := s) hts (Nat.le_of_ble_eq_true rfl) (Nat.le_of_ble_eq_true rfl)) hE hP hK hS (rv_0 hK hP (by decide)) rfl hl.1 rfl (Nat.le_of_ble_eq_true rfl) dX6_challenge_8 ⟨Nat.le_of_ble_eq_true rfl, Nat.le_of_ble_eq_true rfl⟩ (fun E10 ce9 q9 H locs hoE hP hS hc9 hv9 hcl9 => ?_) (fun i7 hi7 H locs ho hP hS => ?_)
  · have hk := he12 _ hoE
    cases (show some _ = some _ from hk)
    exact vx_out (hout9 _) hlocks hc9 hv9 hcl9 (fun t8 ht8 hA8 => ⟨(), trivial, ⟨rfl, wP_eq ht8 hP⟩, hS.F ht8⟩) hS.2.2 (by decide) (by decide)
  have hk := hn11 _ ho
  refine lv_astore (lv' := [(4, .ref (Z.2.2 12 i7)), (3, .ref (Z.2.2 9 i1)), (0, .ref (Z.2.2 0 0)), (1, .int p0), (2, .int p1)]) hx hb dX6_challenge_11 hl (by decide) rfl (fun ls hl => ?_)
  refine lv_aload hx hb dX6_challenge_13 (lv_at hl 0 rfl) ?_
  refine gf_RX6_223 hx hb hts hown hK hP hi7 dX6_challenge_15 ?_
  refine lv_iload_n hx hb dX6_challenge_18 rfl (lv_at hl 3 rfl) ?_
  refine lv_icmp_eq (tgt := 40) hx hb dX6_challenge_19 (by decide) (fun cz13 => ?_) (fun cz13 => ?_)
  · have hk := it_t cz13 hk
    cases (show some _ = some _ from hk)
    obtain ⟨sa, hstr⟩ := EV.str hE (own := RX6) (k := 340) (tx := "the own one, not in p, or too little honour") (by decide +kernel)
    exact vx_throwSW (mc := 3) (ms := 18) (names := ["java/lang/RuntimeException", "java/lang/Exception"]) hx hb hfl hown (by decide +kernel) (by decide +kernel) (hts _ q838) (hts _ q98) hstr (th_171 hE hts) (by decide +kernel) (EV.zu hE) (EV.zn hE) hS (hl.1.trans hml.symm) dX6_challenge_40 dX6_challenge_43 dX6_challenge_44 dX6_challenge_47 dX6_challenge_50 (hout9 _) (Nat.le_of_ble_eq_true rfl) (Nat.le_of_ble_eq_true rfl) (Nat.le_of_ble_eq_true rfl) (Nat.le_of_ble_eq_true rfl) hlocks (fun t9 _ h8 h9 => ⟨(), trivial, ⟨rfl, wP_kept hP h9⟩, fF hS h8 h9⟩) hS.2.2 (by decide) (by decide)
  · have hk := it_f cz13 hk
    refine lv_aload hx hb dX6_challenge_22 (lv_at hl 0 rfl) ?_
    refine gf_RX6_238 hx hb hts hown hK hP hi7 dX6_challenge_24 ?_
    refine lv_bipush (v := (112 : Int32)) hx hb dX6_challenge_27 (by decide) ?_
    refine lv_icmp_ne (tgt := 40) hx hb dX6_challenge_29 (by decide) (fun cz14 => ?_) (fun cz14 => ?_)
    · have hk := it_f cz14 hk
      cases (show some _ = some _ from hk)
      obtain ⟨sa, hstr⟩ := EV.str hE (own := RX6) (k := 340) (tx := "the own one, not in p, or too little honour") (by decide +kernel)
      exact vx_throwSW (mc := 3) (ms := 18) (names := ["java/lang/RuntimeException", "java/lang/Exception"]) hx hb hfl hown (by decide +kernel) (by decide +kernel) (hts _ q838) (hts _ q98) hstr (th_171 hE hts) (by decide +kernel) (EV.zu hE) (EV.zn hE) hS (hl.1.trans hml.symm) dX6_challenge_40 dX6_challenge_43 dX6_challenge_44 dX6_challenge_47 dX6_challenge_50 (hout9 _) (Nat.le_of_ble_eq_true rfl) (Nat.le_of_ble_eq_true rfl) (Nat.le_of_ble_eq_true rfl) (Nat.le_of_ble_eq_true rfl) hlocks (fun t9 _ h8 h9 => ⟨(), trivial, ⟨rfl, wP_kept hP h9⟩, fF hS h8 h9⟩) hS.2.2 (by decide) (by decide)
    · have hk := it_t cz14 hk
      refine lv_aload_n hx hb dX6_challenge_32 rfl (lv_at hl 1 rfl) ?_
      refine gf_RX6_331 hx hb hts hown hK hP hi1 dX6_challenge_33 ?_
      refine lv_iconst (v := (2 : Int32)) hx hb dX6_challenge_36 (by decide) ?_
      refine lv_icmp_ge (tgt := 51) hx hb dX6_challenge_37 (by decide) (fun cz15 => ?_) (fun cz15 => ?_)
      · have hk := it_t cz15 hk
        refine lv_aload_n hx hb dX6_challenge_51 rfl (lv_at hl 2 rfl) ?_
        refine gf_RX6_68 hx hb hts hown hK hP (by decide) dX6_challenge_52 ?_
        refine lv_bipush (v := (8 : Int32)) hx hb dX6_challenge_55 (by decide) ?_
        refine lv_icmp_lt (tgt := 71) hx hb dX6_challenge_57 (by decide) (fun cz16 => ?_) (fun cz16 => ?_)
        · have hk := it_t cz16 hk
          refine lv_aload_n hx hb dX6_challenge_71 rfl (lv_at hl 1 rfl) ?_
          refine lv_dup hx hb dX6_challenge_72 rfl ?_
          refine gf_RX6_331 hx hb hts hown hK hP hi1 dX6_challenge_73 ?_
          refine lv_iconst (v := (2 : Int32)) hx hb dX6_challenge_76 (by decide) ?_
          refine lv_isub hx hb dX6_challenge_77 ?_
          obtain ⟨X17, eX17, hk⟩ := lq_s hk
          refine pf_RX6_331 hx hb hts hown hZ hK hP hS hi1 dX6_challenge_78 (fun H locs hP hS => ?_)
          rw [← eX17] at hP
          refine lv_aload hx hb dX6_challenge_81 (lv_at hl 0 rfl) ?_
          refine lv_bipush (v := (99 : Int32)) hx hb dX6_challenge_83 (by decide) ?_
          obtain ⟨X18, eX18, hk⟩ := lq_s hk
          refine pf_RX6_238 hx hb hts hown hZ hK hP hS hi7 (by unfold okc; decide) dX6_challenge_85 (fun H locs hP hS => ?_)
          rw [← eX18] at hP
          refine lv_aload hx hb dX6_challenge_88 (lv_at hl 0 rfl) ?_
          refine lv_iload_n hx hb dX6_challenge_90 rfl (lv_at hl 3 rfl) ?_
          obtain ⟨X19, eX19, hk⟩ := lq_s hk
          refine pf_RX6_344 hx hb hts hown hZ hK hP hS hi7 dX6_challenge_91 (fun H locs hP hS => ?_)
          rw [← eX19] at hP
          refine lv_aload hx hb dX6_challenge_94 (lv_at hl 0 rfl) ?_
          refine lv_bipush (v := (7 : Int32)) hx hb dX6_challenge_96 (by decide) ?_
          obtain ⟨X20, eX20, hk⟩ := lq_s hk
          refine pf_RX6_347 hx hb hts hown hZ hK hP hS hi7 dX6_challenge_98 (fun H locs hP hS => ?_)
          rw [← eX20] at hP
          refine lv_aload_n hx hb dX6_challenge_101 rfl (lv_at hl 2 rfl) ?_
          refine gf_RX6_41 hx hb hts hown hK hP (by decide) dX6_challenge_102 ?_
          refine lv_aload_n hx hb dX6_challenge_105 rfl (lv_at hl 2 rfl) ?_
          refine gf_RX6_68 hx hb hts hown hK hP (by decide) dX6_challenge_106 ?_
          refine lv_iload_n hx hb dX6_challenge_109 rfl (lv_at hl 4 rfl) ?_
          obtain ⟨hg21, hk⟩ := gd_s hk
          obtain ⟨X22, eX22, hk⟩ := lq_s hk
          refine wa_iastore_24 hx hb hZ hK hP hS (by decide) hg21 dX6_challenge_110 (fun H locs hP hS => ?_)
          rw [← eX22] at hP
          refine lv_aload_n hx hb dX6_challenge_111 rfl (lv_at hl 2 rfl) ?_
          refine lv_dup hx hb dX6_challenge_112 rfl ?_
          refine gf_RX6_68 hx hb hts hown hK hP (by decide) dX6_challenge_113 ?_
          refine lv_iconst (v := (1 : Int32)) hx hb dX6_challenge_116 (by decide) ?_
          refine lv_iadd hx hb dX6_challenge_117 ?_
          obtain ⟨X23, eX23, hk⟩ := lq_s hk
          refine pf_RX6_68 hx hb hts hown hZ hK hP hS (by decide) dX6_challenge_118 (fun H locs hP hS => ?_)
          rw [← eX23] at hP
          refine lv_aload_n hx hb dX6_challenge_121 rfl (lv_at hl 2 rfl) ?_
          refine gf_RX6_68 hx hb hts hown hK hP (by decide) dX6_challenge_122 ?_
          cases (show some _ = some _ from hk)
          exact we_i hx hb hr hlocks hP rfl hS dX6_challenge_125 (by decide) (by decide)
        · have hk := it_f cz16 hk
          cases (show some _ = some _ from hk)
          obtain ⟨sa, hstr⟩ := EV.str hE (own := RX6) (k := 342) (tx := "8 challenges are open") (by decide +kernel)
          exact vx_throwSW (mc := 3) (ms := 18) (names := ["java/lang/RuntimeException", "java/lang/Exception"]) hx hb hfl hown (by decide +kernel) (by decide +kernel) (hts _ q705) (hts _ q95) hstr (th_112 hE hts) (by decide +kernel) (EV.zu hE) (EV.zn hE) hS (hl.1.trans hml.symm) dX6_challenge_60 dX6_challenge_63 dX6_challenge_64 dX6_challenge_67 dX6_challenge_70 (hout9 _) (Nat.le_of_ble_eq_true rfl) (Nat.le_of_ble_eq_true rfl) (Nat.le_of_ble_eq_true rfl) (Nat.le_of_ble_eq_true rfl) hlocks (fun t9 _ h8 h9 => ⟨(), trivial, ⟨rfl, wP_kept hP h9⟩, fF hS h8 h9⟩) hS.2.2 (by decide) (by decide)
      · have hk := it_f cz15 hk
        cases (show some _ = some _ from hk)
        obtain ⟨sa, hstr⟩ := EV.str hE (own := RX6) (k := 340) (tx := "the own one, not in p, or too little honour") (by decide +kernel)
        exact vx_throwSW (mc := 3) (ms := 18) (names := ["java/lang/RuntimeException", "java/lang/Exception"]) hx hb hfl hown (by decide +kernel) (by decide +kernel) (hts _ q838) (hts _ q98) hstr (th_171 hE hts) (by decide +kernel) (EV.zu hE) (EV.zn hE) hS (hl.1.trans hml.symm) dX6_challenge_40 dX6_challenge_43 dX6_challenge_44 dX6_challenge_47 dX6_challenge_50 (hout9 _) (Nat.le_of_ble_eq_true rfl) (Nat.le_of_ble_eq_true rfl) (Nat.le_of_ble_eq_true rfl) (Nat.le_of_ble_eq_true rfl) hlocks (fun t9 _ h8 h9 => ⟨(), trivial, ⟨rfl, wP_kept hP h9⟩, fF hS h8 h9⟩) hS.2.2 (by decide) (by decide)
set_option maxHeartbeats 4000000 in
set_option maxRecDepth 100000 in
theorem k_X6_closeChallenge (l : Launch) (hfl : l.stackTraces = false) (Z : ZT) (hZ : wD Z) (X M O : SS) (p0 : Int32) (Xz : SS) (r : Unit) (hf : f_X6_closeChallenge X p0 = some (Xz, r)) (sz : Nat) : vx_Met l yX6_closeChallenge ws_X6_closeChallenge rm_X6_closeChallenge (va_Pc [.ref (Z.2.2 0 0), .int p0] (cP Z (X, M, O) sz)) (cQv Z (Xz, M, O) (.inl ()) sz) (cX Z (Xz, M, O) (.inl () : Unit ⊕ String) sz) 0 0 (wA Z sz) := by
  refine vx_ofW (cc := cX6_closeChallenge) (maxL := 4) (ret := none) (by decide) rfl ?_
  intro p e s m args below meth c s₁ B hml htab hv
  obtain ⟨hargs, hsz, hE, hP, hK⟩ := hv
  have hx := B.exec
  have hb := B.bytes
  have hr := B.returns
  have hts0 := atoms_spec (ws := ws_X6_closeChallenge) B.pre
  have hts : ∀ w ∈ lw_all, w.before args s = true := fun w h => hts0 w (List.mem_cons_of_mem _ h)
  have hown : s.vm.findClass RX6 = some m.cls := findClass_of_methodNamed B.named
  have hlocks := B.notSynchronized
  have hout9 : ∀ (pc9 : Nat), ∀ x ∈ c.exceptionTable.toList, covers x pc9 = false := fun _ x hx9 => (htab x hx9).elim
  subst hsz
  have hS : va_S (wA Z s.heap.size) s.heap s.heap [] := va_S.rf
  have hl := lv_entry ([.ref (Z.2.2 0 0), .int p0]) (n := 4) (Nat.le_of_ble_eq_true rfl)
  have hen : entryFrame m args 4 = entryFrame m ([.ref (Z.2.2 0 0), .int p0] : List Value).toArray 4 := by rw [hargs]
  rw [hen, lg_entry_eq]
  generalize (lg_sl ([.ref (Z.2.2 0 0), .int p0]) ++ List.replicate (4 - (lg_sl ([.ref (Z.2.2 0 0), .int p0])).length) Slot.unset).toArray = ls at hl ⊢
  have hl : lv_has ls 4 [(0, .ref (Z.2.2 0 0)), (1, .int p0)] := hl
  have hk := hf
  unfold f_X6_closeChallenge at hk
  refine lv_iconst (v := (0 : Int32)) hx hb dX6_closeChallenge_0 (by decide) ?_
  refine lv_istore_n (lv' := [(2, .int (0 : Int32)), (0, .ref (Z.2.2 0 0)), (1, .int p0)]) hx hb dX6_closeChallenge_1 rfl hl (by decide) rfl (fun ls hl => ?_)
  refine lv_iconst (v := (0 : Int32)) hx hb dX6_closeChallenge_2 (by decide) ?_
  refine lv_istore_n (lv' := [(3, .int (0 : Int32)), (2, .int (0 : Int32)), (0, .ref (Z.2.2 0 0)), (1, .int p0)]) hx hb dX6_closeChallenge_3 rfl hl (by decide) rfl (fun ls hl => ?_)
  obtain ⟨k1, hk1, hk⟩ := gn hk
  have ex1 : ∀ (v2 : Int32) (X3 : SS) (H : Heap) (locs : List Loc) (ls : Array Slot), k1 v2 X3 = some (Xz, r) → wP Z (X3, M, O) H → va_S (wA Z s.heap.size) s.heap H locs → lv_has ls 4 [(2, .int v2), (0, .ref (Z.2.2 0 0))] → W p l e (headSpec ws_X6_closeChallenge rm_X6_closeChallenge).room s m args below meth c H locs 0 0 (vx_MQ below (cQv Z (Xz, M, O) (.inl ()) s.heap.size) (cX Z (Xz, M, O) (.inl () : Unit ⊕ String) s.heap.size) args s 0 0 (wA Z s.heap.size)) (F0 m 43 ls []) := by
    intro v2 X3 H locs ls hk hP hS hl
    subst hk1
    refine lv_aload_n hx hb dX6_closeChallenge_43 rfl (lv_at hl 1 rfl) ?_
    refine lv_iload_n hx hb dX6_closeChallenge_44 rfl (lv_at hl 0 rfl) ?_
    obtain ⟨X7, eX7, hk⟩ := lq_s hk
    refine pf_RX6_68 hx hb hts hown hZ hK hP hS (by decide) dX6_closeChallenge_45 (fun H locs hP hS => ?_)
    rw [← eX7] at hP
    cases (show some _ = some _ from hk)
    exact we_v hx hb hr hlocks hP rfl hS dX6_closeChallenge_48 (by decide) (by decide)
  have lp1 : ∀ (n : Nat) (v4 : Int32) (v5 : Int32) (X6 : SS) (H : Heap) (locs : List Loc) (ls : Array Slot), f_X6_closeChallenge_L4 p0 n v4 v5 X6 k1 = some (Xz, r) → wP Z (X6, M, O) H → va_S (wA Z s.heap.size) s.heap H locs → lv_has ls 4 [(3, .int v4), (2, .int v5), (0, .ref (Z.2.2 0 0)), (1, .int p0)] → W p l e (headSpec ws_X6_closeChallenge rm_X6_closeChallenge).room s m args below meth c H locs 0 0 (vx_MQ below (cQv Z (Xz, M, O) (.inl ()) s.heap.size) (cX Z (Xz, M, O) (.inl () : Unit ⊕ String) s.heap.size) args s 0 0 (wA Z s.heap.size)) (F0 m 4 ls []) := by
    intro n
    induction n with
    | zero =>
      intro v4 v5 X6 H locs ls hk
      rw [f_X6_closeChallenge_L4] at hk
      exact nomatch (show none = some _ from hk)
    | succ n ih =>
      intro v4 v5 X6 H locs ls hk hP hS hl
      rw [f_X6_closeChallenge_L4] at hk
      refine lv_iload_n hx hb dX6_closeChallenge_4 rfl (lv_at hl 0 rfl) ?_
      refine lv_aload_n hx hb dX6_closeChallenge_5 rfl (lv_at hl 2 rfl) ?_
      refine gf_RX6_68 hx hb hts hown hK hP (by decide) dX6_closeChallenge_6 ?_
      refine lv_icmp_ge (tgt := 43) hx hb dX6_closeChallenge_9 (by decide) (fun cz8 => ?_) (fun cz8 => ?_)
      · have hk := it_t cz8 hk
        exact ex1 v5 X6 _ _ _ hk hP hS (lv_sub hl [1, 2] rfl)
      · have hk := it_f cz8 hk
        refine lv_aload_n hx hb dX6_closeChallenge_12 rfl (lv_at hl 2 rfl) ?_
        refine gf_RX6_41 hx hb hts hown hK hP (by decide) dX6_closeChallenge_13 ?_
        refine lv_iload_n hx hb dX6_closeChallenge_16 rfl (lv_at hl 0 rfl) ?_
        obtain ⟨hg9, hk⟩ := gd_s hk
        refine wa_iaload_24 hx hb hK hP (by decide) hg9 dX6_closeChallenge_17 ?_
        refine lv_iload_n hx hb dX6_closeChallenge_18 rfl (lv_at hl 3 rfl) ?_
        refine lv_icmp_eq (tgt := 37) hx hb dX6_closeChallenge_19 (by decide) (fun cz10 => ?_) (fun cz10 => ?_)
        · have hk := it_t cz10 hk
          refine lv_iinc (v := (v4 + (1 : Int32))) (lv' := [(3, .int (v4 + (1 : Int32))), (2, .int v5), (0, .ref (Z.2.2 0 0)), (1, .int p0)]) hx hb dX6_closeChallenge_37 hl (k := 0) rfl rfl (by decide) rfl (fun ls hl => ?_)
          refine lv_goto (tgt := 4) hx hb dX6_closeChallenge_40 (by decide) ?_
          exact ih (v4 + (1 : Int32)) v5 X6 _ _ _ hk hP hS (lv_sub hl [0, 1, 2, 3] rfl)
        · have hk := it_f cz10 hk
          refine lv_aload_n hx hb dX6_closeChallenge_22 rfl (lv_at hl 2 rfl) ?_
          refine gf_RX6_41 hx hb hts hown hK hP (by decide) dX6_closeChallenge_23 ?_
          refine lv_iload_n hx hb dX6_closeChallenge_26 rfl (lv_at hl 1 rfl) ?_
          refine lv_aload_n hx hb dX6_closeChallenge_27 rfl (lv_at hl 2 rfl) ?_
          refine gf_RX6_41 hx hb hts hown hK hP (by decide) dX6_closeChallenge_28 ?_
          refine lv_iload_n hx hb dX6_closeChallenge_31 rfl (lv_at hl 0 rfl) ?_
          obtain ⟨hg11, hk⟩ := gd_s hk
          refine wa_iaload_24 hx hb hK hP (by decide) hg11 dX6_closeChallenge_32 ?_
          obtain ⟨hg12, hk⟩ := gd_s hk
          obtain ⟨X13, eX13, hk⟩ := lq_s hk
          refine wa_iastore_24 hx hb hZ hK hP hS (by decide) hg12 dX6_closeChallenge_33 (fun H locs hP hS => ?_)
          rw [← eX13] at hP
          refine lv_iinc (v := (v5 + (1 : Int32))) (lv' := [(2, .int (v5 + (1 : Int32))), (3, .int v4), (0, .ref (Z.2.2 0 0)), (1, .int p0)]) hx hb dX6_closeChallenge_34 hl (k := 1) rfl rfl (by decide) rfl (fun ls hl => ?_)
          refine lv_iinc (v := (v4 + (1 : Int32))) (lv' := [(3, .int (v4 + (1 : Int32))), (2, .int (v5 + (1 : Int32))), (0, .ref (Z.2.2 0 0)), (1, .int p0)]) hx hb dX6_closeChallenge_37 hl (k := 1) rfl rfl (by decide) rfl (fun ls hl => ?_)
          refine lv_goto (tgt := 4) hx hb dX6_closeChallenge_40 (by decide) ?_
          exact ih (v4 + (1 : Int32)) (v5 + (1 : Int32)) X13 _ _ _ hk hP hS (lv_sub hl [0, 1, 2, 3] rfl)
  exact lp1 1000 (0 : Int32) (0 : Int32) X _ _ _ hk hP hS (lv_sub hl [0, 1, 2, 3] rfl)
set_option maxHeartbeats 4000000 in
set_option maxRecDepth 100000 in
theorem k_X6_closeByBody (l : Launch) (hfl : l.stackTraces = false) (Z : ZT) (hZ : wD Z) (X M O : SS) (p0 : Int32) (i2 : Nat) (i3 : Nat) (hi2 : i2 < 71) (hi3 : i3 < 10) (Xz : SS) (r : Int32) (hf : f_X6_closeByBody X p0 i2 i3 = some (Xz, r)) (sz : Nat) : vx_Met l yX6_closeByBody ws_X6_closeByBody rm_X6_closeByBody (va_Pc [.ref (Z.2.2 0 0), .int p0, .ref (Z.2.2 1 i2), .ref (Z.2.2 9 i3)] (cP Z (X, M, O) sz)) (cQi Z (Xz, M, O) (.inl r) sz) (cX Z (Xz, M, O) (.inl r : Int32 ⊕ String) sz) 0 0 (wA Z sz) := by
  refine vx_ofW (cc := cX6_closeByBody) (maxL := 6) (ret := (some .char)) (by decide) rfl ?_
  intro p e s m args below meth c s₁ B hml htab hv
  obtain ⟨hargs, hsz, hE, hP, hK⟩ := hv
  have hx := B.exec
  have hb := B.bytes
  have hr := B.returns
  have hts0 := atoms_spec (ws := ws_X6_closeByBody) B.pre
  have hts : ∀ w ∈ lw_all, w.before args s = true := fun w h => hts0 w (List.mem_cons_of_mem _ h)
  have hown : s.vm.findClass RX6 = some m.cls := findClass_of_methodNamed B.named
  have hlocks := B.notSynchronized
  have hout9 : ∀ (pc9 : Nat), ∀ x ∈ c.exceptionTable.toList, covers x pc9 = false := fun _ x hx9 => (htab x hx9).elim
  subst hsz
  have hS : va_S (wA Z s.heap.size) s.heap s.heap [] := va_S.rf
  have hl := lv_entry ([.ref (Z.2.2 0 0), .int p0, .ref (Z.2.2 1 i2), .ref (Z.2.2 9 i3)]) (n := 6) (Nat.le_of_ble_eq_true rfl)
  have hen : entryFrame m args 6 = entryFrame m ([.ref (Z.2.2 0 0), .int p0, .ref (Z.2.2 1 i2), .ref (Z.2.2 9 i3)] : List Value).toArray 6 := by rw [hargs]
  rw [hen, lg_entry_eq]
  generalize (lg_sl ([.ref (Z.2.2 0 0), .int p0, .ref (Z.2.2 1 i2), .ref (Z.2.2 9 i3)]) ++ List.replicate (6 - (lg_sl ([.ref (Z.2.2 0 0), .int p0, .ref (Z.2.2 1 i2), .ref (Z.2.2 9 i3)])).length) Slot.unset).toArray = ls at hl ⊢
  have hl : lv_has ls 6 [(0, .ref (Z.2.2 0 0)), (1, .int p0), (2, .ref (Z.2.2 1 i2)), (3, .ref (Z.2.2 9 i3))] := hl
  have hk := hf
  unfold f_X6_closeByBody at hk
  refine lv_aload_n hx hb dX6_closeByBody_0 rfl (lv_at hl 0 rfl) ?_
  refine gf_RX6_37 hx hb hts hown hK hP (by decide) dX6_closeByBody_1 ?_
  refine lv_iload_n hx hb dX6_closeByBody_4 rfl (lv_at hl 1 rfl) ?_
  obtain ⟨hg1, hk⟩ := gd_s hk
  refine wa_aaload_23 hx hb hK hP (by decide) hg1 dX6_closeByBody_5 ?_
  refine lv_astore (lv' := [(4, .ref (Z.2.2 12 (p0).toNatClampNeg)), (0, .ref (Z.2.2 0 0)), (1, .int p0), (2, .ref (Z.2.2 1 i2)), (3, .ref (Z.2.2 9 i3))]) hx hb dX6_closeByBody_6 hl (by decide) rfl (fun ls hl => ?_)
  refine lv_aload_n hx hb dX6_closeByBody_8 rfl (lv_at hl 1 rfl) ?_
  refine lv_iload_n hx hb dX6_closeByBody_9 rfl (lv_at hl 2 rfl) ?_
  obtain ⟨X3, v2, hf4, hk⟩ := b1_s hk
  refine wc_vV0 (rest := []) (As := [.int p0]) ⟨hx, hb, hml, hown, hts⟩ (fun sz => k_X6_closeChallenge l hfl Z hZ X M O p0 X3 v2 hf4 sz) (cw_RX6_375 (args := args) (s := s) hts (Nat.le_of_ble_eq_true rfl) (Nat.le_of_ble_eq_true rfl)) hE hP hK hS (rv_0 hK hP (by decide)) rfl hl.1 rfl (Nat.le_of_ble_eq_true rfl) dX6_closeByBody_10 ⟨Nat.le_of_ble_eq_true rfl, Nat.le_of_ble_eq_true rfl⟩ (fun H locs hP hS => ?_)
  refine lv_aload hx hb dX6_closeByBody_13 (lv_at hl 0 rfl) ?_
  refine lv_aload_n hx hb dX6_closeByBody_15 rfl (lv_at hl 3 rfl) ?_
  obtain ⟨X6, v5, hf7, hk⟩ := b1_s hk
  refine wc_vV0 (rest := []) (As := [.ref (Z.2.2 1 i2)]) ⟨hx, hb, hml, hown, hts⟩ (fun sz => k_X5_regain l hfl Z hZ X3 M O (p0).toNatClampNeg i2 (vp_lt hg1) hi2 X6 v5 hf7 sz) (cw_RX6_465 (args := args) (s := s) hts (Nat.le_of_ble_eq_true rfl) (Nat.le_of_ble_eq_true rfl)) hE hP hK hS (rv_12 hK hP (vp_lt hg1)) rfl hl.1 rfl (Nat.le_of_ble_eq_true rfl) dX6_closeByBody_16 ⟨Nat.le_of_ble_eq_true rfl, Nat.le_of_ble_eq_true rfl⟩ (fun H locs hP hS => ?_)
  refine lv_aload_n hx hb dX6_closeByBody_19 rfl (lv_at hl 1 rfl) ?_
  refine lv_aload hx hb dX6_closeByBody_20 (lv_at hl 0 rfl) ?_
  obtain ⟨X9, v8, hf10, hk⟩ := b1_s hk
  refine wc_iV0 (rest := []) (As := [.ref (Z.2.2 12 (p0).toNatClampNeg)]) ⟨hx, hb, hml, hown, hts⟩ (fun sz => k_X6_verdictOn l hfl Z hZ X6 M O (p0).toNatClampNeg (vp_lt hg1) X9 v8 hf10 sz) (cw_RX6_424 (args := args) (s := s) hts (Nat.le_of_ble_eq_true rfl) (Nat.le_of_ble_eq_true rfl)) hE hP hK hS (rv_0 hK hP (by decide)) rfl hl.1 rfl (Nat.le_of_ble_eq_true rfl) dX6_closeByBody_22 ⟨Nat.le_of_ble_eq_true rfl, Nat.le_of_ble_eq_true rfl⟩ (fun H locs hP hS => ?_)
  refine lv_istore (lv' := [(5, .int v8), (4, .ref (Z.2.2 12 (p0).toNatClampNeg)), (0, .ref (Z.2.2 0 0)), (1, .int p0), (2, .ref (Z.2.2 1 i2)), (3, .ref (Z.2.2 9 i3))]) hx hb dX6_closeByBody_25 hl (by decide) rfl (fun ls hl => ?_)
  refine lv_aload hx hb dX6_closeByBody_27 (lv_at hl 1 rfl) ?_
  refine lv_iload hx hb dX6_closeByBody_29 (lv_at hl 0 rfl) ?_
  obtain ⟨hg11, hk⟩ := gd_s hk
  obtain ⟨X12, eX12, hk⟩ := lq_s hk
  refine pf_RX6_238 hx hb hts hown hZ hK hP hS (vp_lt hg1) hg11 dX6_closeByBody_31 (fun H locs hP hS => ?_)
  rw [← eX12] at hP
  refine lv_aload_n hx hb dX6_closeByBody_34 rfl (lv_at hl 2 rfl) ?_
  obtain ⟨X14, v13, hf15, hk⟩ := b1_s hk
  refine wc_iV0 (rest := []) (As := []) ⟨hx, hb, hml, hown, hts⟩ (fun sz => k_X6_makeRoom l hfl Z hZ X12 M O X14 v13 hf15 sz) (cw_RX6_215 (args := args) (s := s) hts (Nat.le_of_ble_eq_true rfl) (Nat.le_of_ble_eq_true rfl)) hE hP hK hS (rv_0 hK hP (by decide)) rfl hl.1 rfl (Nat.le_of_ble_eq_true rfl) dX6_closeByBody_35 ⟨Nat.le_of_ble_eq_true rfl, Nat.le_of_ble_eq_true rfl⟩ (fun H locs hP hS => ?_)
  refine lv_pop hx hb dX6_closeByBody_38 rfl ?_
  refine lv_iload hx hb dX6_closeByBody_39 (lv_at hl 0 rfl) ?_
  refine lv_bipush (v := (115 : Int32)) hx hb dX6_closeByBody_41 (by decide) ?_
  refine lv_icmp_ne (tgt := 59) hx hb dX6_closeByBody_43 (by decide) (fun cz16 => ?_) (fun cz16 => ?_)
  · have hk := it_f cz16 hk
    refine lv_aload_n hx hb dX6_closeByBody_59 rfl (lv_at hl 2 rfl) ?_
    refine gf_RX6_31 hx hb hts hown hK hP (by decide) dX6_closeByBody_60 ?_
    refine lv_aload hx hb dX6_closeByBody_63 (lv_at hl 1 rfl) ?_
    refine gf_RX6_344 hx hb hts hown hK hP (vp_lt hg1) dX6_closeByBody_65 ?_
    obtain ⟨hg17, hk⟩ := gd_s hk
    refine wa_aaload_22 hx hb hK hP (by decide) hg17 dX6_closeByBody_68 ?_
    refine lv_dup hx hb dX6_closeByBody_69 rfl ?_
    refine gf_RX6_331 hx hb hts hown hK hP (vp_lt hg17) dX6_closeByBody_70 ?_
    refine lv_iconst (v := (5 : Int32)) hx hb dX6_closeByBody_73 (by decide) ?_
    refine lv_iadd hx hb dX6_closeByBody_74 ?_
    obtain ⟨X18, eX18, hk⟩ := lq_s hk
    refine pf_RX6_331 hx hb hts hown hZ hK hP hS (vp_lt hg17) dX6_closeByBody_75 (fun H locs hP hS => ?_)
    rw [← eX18] at hP
    refine lv_aload hx hb dX6_closeByBody_78 (lv_at hl 1 rfl) ?_
    refine gf_RX6_252 hx hb hts hown hK hP (vp_lt hg1) dX6_closeByBody_80 ?_
    refine lv_if_eq (tgt := 92) hx hb dX6_closeByBody_83 (by decide) (fun cz19 => ?_) (fun cz19 => ?_)
    · have hk := it_t cz19 hk
      refine lv_bipush (v := (98 : Int32)) hx hb dX6_closeByBody_92 (by decide) ?_
      cases (show some _ = some _ from hk)
      exact we_z hx hb hr hlocks (show okc (98 : Int32) by unfold okc; decide).1 hP rfl hS dX6_closeByBody_94 (by decide) (by decide)
    · have hk := it_f cz19 hk
      refine lv_aload_n hx hb dX6_closeByBody_86 rfl (lv_at hl 2 rfl) ?_
      refine lv_aload hx hb dX6_closeByBody_87 (lv_at hl 1 rfl) ?_
      obtain ⟨X21, v20, hf22, hk⟩ := b1_s hk
      refine wc_vV0 (rest := []) (As := [.ref (Z.2.2 12 (p0).toNatClampNeg)]) ⟨hx, hb, hml, hown, hts⟩ (fun sz => k_X6_dropBody l hfl Z hZ X18 M O (p0).toNatClampNeg (vp_lt hg1) X21 v20 hf22 sz) (cw_RX6_266 (args := args) (s := s) hts (Nat.le_of_ble_eq_true rfl) (Nat.le_of_ble_eq_true rfl)) hE hP hK hS (rv_0 hK hP (by decide)) rfl hl.1 rfl (Nat.le_of_ble_eq_true rfl) dX6_closeByBody_89 ⟨Nat.le_of_ble_eq_true rfl, Nat.le_of_ble_eq_true rfl⟩ (fun H locs hP hS => ?_)
      refine lv_bipush (v := (98 : Int32)) hx hb dX6_closeByBody_92 (by decide) ?_
      cases (show some _ = some _ from hk)
      exact we_z hx hb hr hlocks (show okc (98 : Int32) by unfold okc; decide).1 hP rfl hS dX6_closeByBody_94 (by decide) (by decide)
  · have hk := it_t cz16 hk
    refine lv_aload_n hx hb dX6_closeByBody_46 rfl (lv_at hl 5 rfl) ?_
    refine lv_dup hx hb dX6_closeByBody_47 rfl ?_
    refine gf_RX6_331 hx hb hts hown hK hP hi3 dX6_closeByBody_48 ?_
    refine lv_iconst (v := (3 : Int32)) hx hb dX6_closeByBody_51 (by decide) ?_
    refine lv_iadd hx hb dX6_closeByBody_52 ?_
    obtain ⟨X23, eX23, hk⟩ := lq_s hk
    refine pf_RX6_331 hx hb hts hown hZ hK hP hS hi3 dX6_closeByBody_53 (fun H locs hP hS => ?_)
    rw [← eX23] at hP
    refine lv_bipush (v := (115 : Int32)) hx hb dX6_closeByBody_56 (by decide) ?_
    cases (show some _ = some _ from hk)
    exact we_z hx hb hr hlocks (show okc (115 : Int32) by unfold okc; decide).1 hP rfl hS dX6_closeByBody_58 (by decide) (by decide)
set_option maxHeartbeats 4000000 in
set_option maxRecDepth 100000 in
theorem k_X6_give (l : Launch) (hfl : l.stackTraces = false) (Z : ZT) (hZ : wD Z) (X M O : SS) (p0 : Int32) (p1 : Int32) (Xz : SS) (o : Int32 ⊕ String) (hf : f_X6_give X p0 p1 = some (Xz, o)) (sz : Nat) : vx_Met l yX6_give ws_X6_give rm_X6_give (va_Pc [.ref (Z.2.2 0 0), .int p0, .int p1] (cP Z (X, M, O) sz)) (cQi Z (Xz, M, O) o sz) (cX Z (Xz, M, O) o sz) 3 18 (wA Z sz) := by
  refine vx_ofW (cc := cX6_give) (maxL := 5) (ret := (some .char)) (by decide) rfl ?_
  intro p e s m args below meth c s₁ B hml htab hv
  obtain ⟨hargs, hsz, hE, hP, hK⟩ := hv
  have hx := B.exec
  have hb := B.bytes
  have hr := B.returns
  have hts0 := atoms_spec (ws := ws_X6_give) B.pre
  have hts : ∀ w ∈ lw_all, w.before args s = true := fun w h => hts0 w (List.mem_cons_of_mem _ h)
  have hown : s.vm.findClass RX6 = some m.cls := findClass_of_methodNamed B.named
  have hlocks := B.notSynchronized
  have hout9 : ∀ (pc9 : Nat), ∀ x ∈ c.exceptionTable.toList, covers x pc9 = false := fun _ x hx9 => (htab x hx9).elim
  subst hsz
  have hS : va_S (wA Z s.heap.size) s.heap s.heap [] := va_S.rf
  have hl := lv_entry ([.ref (Z.2.2 0 0), .int p0, .int p1]) (n := 5) (Nat.le_of_ble_eq_true rfl)
  have hen : entryFrame m args 5 = entryFrame m ([.ref (Z.2.2 0 0), .int p0, .int p1] : List Value).toArray 5 := by rw [hargs]
  rw [hen, lg_entry_eq]
  generalize (lg_sl ([.ref (Z.2.2 0 0), .int p0, .int p1]) ++ List.replicate (5 - (lg_sl ([.ref (Z.2.2 0 0), .int p0, .int p1])).length) Slot.unset).toArray = ls at hl ⊢
  have hl : lv_has ls 5 [(0, .ref (Z.2.2 0 0)), (1, .int p0), (2, .int p1)] := hl
  have hk := hf
  unfold f_X6_give at hk
  refine lv_aload_n hx hb dX6_give_0 rfl (lv_at hl 0 rfl) ?_
  refine lv_iload_n hx hb dX6_give_1 rfl (lv_at hl 1 rfl) ?_
  obtain ⟨o3, hf2, hn5, he6⟩ := e0_s hk
  refine wc_qV (kd := 9) (rest := []) (As := [.int p0]) ⟨hx, hb, hml, hown, hts⟩ (fun sz => k_X6_memberAt l hfl Z hZ X M O p0 o3 hf2 sz) (cw_RX6_199 (args := args) (s := s) hts (Nat.le_of_ble_eq_true rfl) (Nat.le_of_ble_eq_true rfl)) hE hP hK hS (rv_0 hK hP (by decide)) rfl hl.1 rfl (Nat.le_of_ble_eq_true rfl) dX6_give_2 ⟨Nat.le_of_ble_eq_true rfl, Nat.le_of_ble_eq_true rfl⟩ (fun E4 ce9 q9 H locs hoE hP hS hc9 hv9 hcl9 => ?_) (fun i1 hi1 H locs ho hP hS => ?_)
  · have hk := he6 _ hoE
    cases (show some _ = some _ from hk)
    exact vx_out (hout9 _) hlocks hc9 hv9 hcl9 (fun t8 ht8 hA8 => ⟨(), trivial, ⟨rfl, wP_eq ht8 hP⟩, hS.F ht8⟩) hS.2.2 (by decide) (by decide)
  have hk := hn5 _ ho
  refine lv_astore_n (lv' := [(3, .ref (Z.2.2 9 i1)), (0, .ref (Z.2.2 0 0)), (1, .int p0), (2, .int p1)]) hx hb dX6_give_5 rfl hl (by decide) rfl (fun ls hl => ?_)
  refine lv_aload_n hx hb dX6_give_6 rfl (lv_at hl 1 rfl) ?_
  refine lv_iload_n hx hb dX6_give_7 rfl (lv_at hl 3 rfl) ?_
  obtain ⟨o9, hf8, hn11, he12⟩ := e0_s hk
  refine wc_qV (kd := 12) (rest := []) (As := [.int p1]) ⟨hx, hb, hml, hown, hts⟩ (fun sz => k_X6_workAt l hfl Z hZ X M O p1 o9 hf8 sz) (cw_RX6_219 (args := args) (s := s) hts (Nat.le_of_ble_eq_true rfl) (Nat.le_of_ble_eq_true rfl)) hE hP hK hS (rv_0 hK hP (by decide)) rfl hl.1 rfl (Nat.le_of_ble_eq_true rfl) dX6_give_8 ⟨Nat.le_of_ble_eq_true rfl, Nat.le_of_ble_eq_true rfl⟩ (fun E10 ce9 q9 H locs hoE hP hS hc9 hv9 hcl9 => ?_) (fun i7 hi7 H locs ho hP hS => ?_)
  · have hk := he12 _ hoE
    cases (show some _ = some _ from hk)
    exact vx_out (hout9 _) hlocks hc9 hv9 hcl9 (fun t8 ht8 hA8 => ⟨(), trivial, ⟨rfl, wP_eq ht8 hP⟩, hS.F ht8⟩) hS.2.2 (by decide) (by decide)
  have hk := hn11 _ ho
  refine gf_RX6_238 hx hb hts hown hK hP hi7 dX6_give_11 ?_
  refine lv_bipush (v := (99 : Int32)) hx hb dX6_give_14 (by decide) ?_
  refine lv_icmp_eq (tgt := 30) hx hb dX6_give_16 (by decide) (fun cz13 => ?_) (fun cz13 => ?_)
  · have hk := it_t cz13 hk
    refine lv_aload_n hx hb dX6_give_30 rfl (lv_at hl 0 rfl) ?_
    refine lv_iload_n hx hb dX6_give_31 rfl (lv_at hl 3 rfl) ?_
    obtain ⟨v14, hf15, hk⟩ := b0_s hk
    refine wc_iV0 (rest := []) (As := [.int p1]) ⟨hx, hb, hml, hown, hts⟩ (fun sz => k_X2_placeOfCopy l hfl Z hZ X M O i1 p1 hi1 v14 hf15 sz) (cw_RX6_352 (args := args) (s := s) hts (Nat.le_of_ble_eq_true rfl) (Nat.le_of_ble_eq_true rfl)) hE hP hK hS (rv_9 hK hP hi1) rfl hl.1 rfl (Nat.le_of_ble_eq_true rfl) dX6_give_32 ⟨Nat.le_of_ble_eq_true rfl, Nat.le_of_ble_eq_true rfl⟩ (fun H locs hP hS => ?_)
    refine lv_istore (lv' := [(4, .int v14), (3, .ref (Z.2.2 9 i1)), (0, .ref (Z.2.2 0 0)), (1, .int p0), (2, .int p1)]) hx hb dX6_give_35 hl (by decide) rfl (fun ls hl => ?_)
    refine lv_iload hx hb dX6_give_37 (lv_at hl 0 rfl) ?_
    refine lv_iconst (v := ((-1) : Int32)) hx hb dX6_give_39 (by decide) ?_
    refine lv_icmp_ne (tgt := 54) hx hb dX6_give_40 (by decide) (fun cz16 => ?_) (fun cz16 => ?_)
    · have hk := it_f cz16 hk
      refine lv_aload_n hx hb dX6_give_54 rfl (lv_at hl 2 rfl) ?_
      refine lv_iload_n hx hb dX6_give_55 rfl (lv_at hl 4 rfl) ?_
      refine lv_aload_n hx hb dX6_give_56 rfl (lv_at hl 1 rfl) ?_
      refine gf_RX6_357 hx hb hts hown hK hP hi1 dX6_give_57 ?_
      refine lv_iload hx hb dX6_give_60 (lv_at hl 0 rfl) ?_
      obtain ⟨hg17, hk⟩ := gd_s hk
      refine wa_aaload_10 hx hb hK hP hi1 hg17 dX6_give_62 ?_
      obtain ⟨hg18, hk⟩ := gd_s hk
      refine lv_aload_n hx hb dX6_give_63 rfl (lv_at hl 1 rfl) ?_
      obtain ⟨X20, v19, hf21, hk⟩ := b1_s hk
      refine wc_iV0 (rest := []) (As := [.int p1, .ref (Z.2.2 1 (X.2.2.1 10 i1 (v14).toNatClampNeg)), .ref (Z.2.2 9 i1)]) ⟨hx, hb, hml, hown, hts⟩ (fun sz => k_X6_closeByBody l hfl Z hZ X M O p1 (X.2.2.1 10 i1 (v14).toNatClampNeg) i1 hg18 hi1 X20 v19 hf21 sz) (cw_RX6_361 (args := args) (s := s) hts (Nat.le_of_ble_eq_true rfl) (Nat.le_of_ble_eq_true rfl)) hE hP hK hS (rv_0 hK hP (by decide)) rfl hl.1 rfl (Nat.le_of_ble_eq_true rfl) dX6_give_64 ⟨Nat.le_of_ble_eq_true rfl, Nat.le_of_ble_eq_true rfl⟩ (fun H locs hP hS => ?_)
      obtain ⟨hg22, hk⟩ := gd_s hk
      cases (show some _ = some _ from hk)
      exact we_z hx hb hr hlocks hg22.1 hP rfl hS dX6_give_67 (by decide) (by decide)
    · have hk := it_t cz16 hk
      cases (show some _ = some _ from hk)
      obtain ⟨sa, hstr⟩ := EV.str hE (own := RX6) (k := 355) (tx := "the member has no copy of it") (by decide +kernel)
      exact ng_throwSW (mc := 3) (ms := 18) (Y1 := "java/lang/RuntimeException") (r9 := ["java/lang/Exception"]) hx hb hfl hown (by decide +kernel) (by decide +kernel) (by decide +kernel) (hts _ q866) (hts _ q99) hstr (th_190 hE hts) (by decide +kernel) (EV.zu hE) (EV.zn hE) hS (hl.1.trans hml.symm) dX6_give_43 dX6_give_46 dX6_give_47 dX6_give_50 dX6_give_53 (hout9 _) (Nat.le_of_ble_eq_true rfl) (Nat.le_of_ble_eq_true rfl) (Nat.le_of_ble_eq_true rfl) (Nat.le_of_ble_eq_true rfl) hlocks (fun t9 _ h8 h9 => ⟨(), trivial, ⟨rfl, wP_kept hP h9⟩, fF hS h8 h9⟩) hS.2.2 (by decide) (by decide)
  · have hk := it_f cz13 hk
    cases (show some _ = some _ from hk)
    obtain ⟨sa, hstr⟩ := EV.str hE (own := RX6) (k := 350) (tx := "the work is not in c") (by decide +kernel)
    exact vx_throwSW (mc := 3) (ms := 18) (names := ["java/lang/RuntimeException", "java/lang/Exception"]) hx hb hfl hown (by decide +kernel) (by decide +kernel) (hts _ q838) (hts _ q98) hstr (th_171 hE hts) (by decide +kernel) (EV.zu hE) (EV.zn hE) hS (hl.1.trans hml.symm) dX6_give_19 dX6_give_22 dX6_give_23 dX6_give_26 dX6_give_29 (hout9 _) (Nat.le_of_ble_eq_true rfl) (Nat.le_of_ble_eq_true rfl) (Nat.le_of_ble_eq_true rfl) (Nat.le_of_ble_eq_true rfl) hlocks (fun t9 _ h8 h9 => ⟨(), trivial, ⟨rfl, wP_kept hP h9⟩, fF hS h8 h9⟩) hS.2.2 (by decide) (by decide)
set_option maxHeartbeats 4000000 in
set_option maxRecDepth 100000 in
theorem k_X6_isTheBody (l : Launch) (hfl : l.stackTraces = false) (Z : ZT) (hZ : wD Z) (X M O : SS) (i1 : Nat) (i2 : Nat) (hi1 : i1 < 71) (hi2 : i2 < 40) (Xz : SS) (r : Int32) (hf : f_X6_isTheBody X i1 i2 = some (Xz, r)) (sz : Nat) : vx_Met l yX6_isTheBody ws_X6_isTheBody rm_X6_isTheBody (va_Pc [.ref (Z.2.2 0 0), .ref (Z.2.2 1 i1), .ref (Z.2.2 12 i2)] (cP Z (X, M, O) sz)) (cQi Z (Xz, M, O) (.inl r) sz) (cX Z (Xz, M, O) (.inl r : Int32 ⊕ String) sz) 0 0 (wA Z sz) := by
  refine vx_ofW (cc := cX6_isTheBody) (maxL := 6) (ret := (some .boolean)) (by decide) rfl ?_
  intro p e s m args below meth c s₁ B hml htab hv
  obtain ⟨hargs, hsz, hE, hP, hK⟩ := hv
  have hx := B.exec
  have hb := B.bytes
  have hr := B.returns
  have hts0 := atoms_spec (ws := ws_X6_isTheBody) B.pre
  have hts : ∀ w ∈ lw_all, w.before args s = true := fun w h => hts0 w (List.mem_cons_of_mem _ h)
  have hown : s.vm.findClass RX6 = some m.cls := findClass_of_methodNamed B.named
  have hlocks := B.notSynchronized
  have hout9 : ∀ (pc9 : Nat), ∀ x ∈ c.exceptionTable.toList, covers x pc9 = false := fun _ x hx9 => (htab x hx9).elim
  subst hsz
  have hS : va_S (wA Z s.heap.size) s.heap s.heap [] := va_S.rf
  have hl := lv_entry ([.ref (Z.2.2 0 0), .ref (Z.2.2 1 i1), .ref (Z.2.2 12 i2)]) (n := 6) (Nat.le_of_ble_eq_true rfl)
  have hen : entryFrame m args 6 = entryFrame m ([.ref (Z.2.2 0 0), .ref (Z.2.2 1 i1), .ref (Z.2.2 12 i2)] : List Value).toArray 6 := by rw [hargs]
  rw [hen, lg_entry_eq]
  generalize (lg_sl ([.ref (Z.2.2 0 0), .ref (Z.2.2 1 i1), .ref (Z.2.2 12 i2)]) ++ List.replicate (6 - (lg_sl ([.ref (Z.2.2 0 0), .ref (Z.2.2 1 i1), .ref (Z.2.2 12 i2)])).length) Slot.unset).toArray = ls at hl ⊢
  have hl : lv_has ls 6 [(0, .ref (Z.2.2 0 0)), (1, .ref (Z.2.2 1 i1)), (2, .ref (Z.2.2 12 i2))] := hl
  have hk := hf
  unfold f_X6_isTheBody at hk
  refine lv_aload_n hx hb dX6_isTheBody_0 rfl (lv_at hl 1 rfl) ?_
  refine gf_RX6_105 hx hb hts hown hK hP hi1 dX6_isTheBody_1 ?_
  refine lv_aload_n hx hb dX6_isTheBody_4 rfl (lv_at hl 2 rfl) ?_
  refine gf_RX6_229 hx hb hts hown hK hP hi2 dX6_isTheBody_5 ?_
  refine lv_icmp_ne (tgt := 23) hx hb dX6_isTheBody_8 (by decide) (fun cz1 => ?_) (fun cz1 => ?_)
  · have hk := it_f cz1 hk
    refine lv_iconst (v := (0 : Int32)) hx hb dX6_isTheBody_23 (by decide) ?_
    cases (show some _ = some _ from hk)
    exact we_z hx hb hr hlocks (show okz (0 : Int32) by unfold okz; decide).1 hP rfl hS dX6_isTheBody_24 (by decide) (by decide)
  · have hk := it_t cz1 hk
    refine lv_aload_n hx hb dX6_isTheBody_11 rfl (lv_at hl 1 rfl) ?_
    obtain ⟨v2, hf3, hk⟩ := b0_s hk
    refine wc_lV0 (rest := []) (As := []) ⟨hx, hb, hml, hown, hts⟩ (fun sz => k_X3_sumOfAll l hfl Z hZ X M O i1 hi1 v2 hf3 sz) (cw_RX6_461 (args := args) (s := s) hts (Nat.le_of_ble_eq_true rfl) (Nat.le_of_ble_eq_true rfl)) hE hP hK hS (rv_1 hK hP hi1) rfl hl.1 rfl (Nat.le_of_ble_eq_true rfl) dX6_isTheBody_12 ⟨Nat.le_of_ble_eq_true rfl, Nat.le_of_ble_eq_true rfl⟩ (fun H locs hP hS => ?_)
    refine lv_aload_n hx hb dX6_isTheBody_15 rfl (lv_at hl 2 rfl) ?_
    refine gf_RX6_242 hx hb hts hown hK hP hi2 dX6_isTheBody_16 ?_
    refine W.lcmp hx hb dX6_isTheBody_19 ?_
    refine lv_if_eq (tgt := 25) hx hb dX6_isTheBody_20 (by decide) (fun cz4 => ?_) (fun cz4 => ?_)
    · have hk := it_t cz4 hk
      refine lv_aload_n hx hb dX6_isTheBody_25 rfl (lv_at hl 0 rfl) ?_
      refine gf_RX6_25 hx hb hts hown hK hP (by decide) dX6_isTheBody_26 ?_
      refine lv_aload_n hx hb dX6_isTheBody_29 rfl (lv_at hl 2 rfl) ?_
      refine gf_RX6_226 hx hb hts hown hK hP hi2 dX6_isTheBody_30 ?_
      obtain ⟨hg5, hk⟩ := gd_s hk
      refine wa_aaload_21 hx hb hK hP (by decide) hg5 dX6_isTheBody_33 ?_
      refine lv_astore_n (lv' := [(3, .ref (Z.2.2 7 ((X.1 12 i2 8)).toNatClampNeg)), (0, .ref (Z.2.2 0 0)), (1, .ref (Z.2.2 1 i1)), (2, .ref (Z.2.2 12 i2))]) hx hb dX6_isTheBody_34 rfl hl (by decide) rfl (fun ls hl => ?_)
      refine lv_iconst (v := (0 : Int32)) hx hb dX6_isTheBody_35 (by decide) ?_
      refine lv_istore (lv' := [(4, .int (0 : Int32)), (3, .ref (Z.2.2 7 ((X.1 12 i2 8)).toNatClampNeg)), (0, .ref (Z.2.2 0 0)), (1, .ref (Z.2.2 1 i1)), (2, .ref (Z.2.2 12 i2))]) hx hb dX6_isTheBody_36 hl (by decide) rfl (fun ls hl => ?_)
      obtain ⟨k6, hk6, hk⟩ := gn hk
      have ex6 : ∀ (X7 : SS) (H : Heap) (locs : List Loc) (ls : Array Slot), k6 X7 = some (Xz, r) → wP Z (X7, M, O) H → va_S (wA Z s.heap.size) s.heap H locs → lv_has ls 6 [] → W p l e (headSpec ws_X6_isTheBody rm_X6_isTheBody).room s m args below meth c H locs 0 0 (vx_MQ below (cQi Z (Xz, M, O) (.inl r) s.heap.size) (cX Z (Xz, M, O) (.inl r : Int32 ⊕ String) s.heap.size) args s 0 0 (wA Z s.heap.size)) (F0 m 115 ls []) := by
        intro X7 H locs ls hk hP hS hl
        subst hk6
        refine lv_iconst (v := (1 : Int32)) hx hb dX6_isTheBody_115 (by decide) ?_
        cases (show some _ = some _ from hk)
        exact we_z hx hb hr hlocks (show okz (1 : Int32) by unfold okz; decide).1 hP rfl hS dX6_isTheBody_116 (by decide) (by decide)
      have lp6 : ∀ (n : Nat) (v8 : Int32) (X9 : SS) (H : Heap) (locs : List Loc) (ls : Array Slot), f_X6_isTheBody_L38 i2 X i1 n v8 X9 k6 = some (Xz, r) → wP Z (X9, M, O) H → va_S (wA Z s.heap.size) s.heap H locs → lv_has ls 6 [(4, .int v8), (3, .ref (Z.2.2 7 ((X.1 12 i2 8)).toNatClampNeg)), (0, .ref (Z.2.2 0 0)), (1, .ref (Z.2.2 1 i1)), (2, .ref (Z.2.2 12 i2))] → W p l e (headSpec ws_X6_isTheBody rm_X6_isTheBody).room s m args below meth c H locs 0 0 (vx_MQ below (cQi Z (Xz, M, O) (.inl r) s.heap.size) (cX Z (Xz, M, O) (.inl r : Int32 ⊕ String) s.heap.size) args s 0 0 (wA Z s.heap.size)) (F0 m 38 ls []) := by
        intro n
        induction n with
        | zero =>
          intro v8 X9 H locs ls hk
          rw [f_X6_isTheBody_L38] at hk
          exact nomatch (show none = some _ from hk)
        | succ n ih =>
          intro v8 X9 H locs ls hk hP hS hl
          rw [f_X6_isTheBody_L38] at hk
          refine lv_iload hx hb dX6_isTheBody_38 (lv_at hl 0 rfl) ?_
          refine lv_aload_n hx hb dX6_isTheBody_40 rfl (lv_at hl 4 rfl) ?_
          refine gf_RX6_432 hx hb hts hown hK hP hi2 dX6_isTheBody_41 ?_
          refine lv_icmp_ge (tgt := 115) hx hb dX6_isTheBody_44 (by decide) (fun cz10 => ?_) (fun cz10 => ?_)
          · have hk := it_t cz10 hk
            exact ex6 X9 _ _ _ hk hP hS (lv_sub hl [] rfl)
          · have hk := it_f cz10 hk
            refine lv_iload hx hb dX6_isTheBody_47 (lv_at hl 0 rfl) ?_
            refine lv_aload_n hx hb dX6_isTheBody_49 rfl (lv_at hl 1 rfl) ?_
            refine gf_RX6_146 hx hb hts hown hK hP (vp_lt hg5) dX6_isTheBody_50 ?_
            refine lv_icmp_ge (tgt := 115) hx hb dX6_isTheBody_53 (by decide) (fun cz11 => ?_) (fun cz11 => ?_)
            · have hk := it_t cz11 hk
              exact ex6 X9 _ _ _ hk hP hS (lv_sub hl [] rfl)
            · have hk := it_f cz11 hk
              refine lv_aload_n hx hb dX6_isTheBody_56 rfl (lv_at hl 1 rfl) ?_
              refine gf_RX6_151 hx hb hts hown hK hP (vp_lt hg5) dX6_isTheBody_57 ?_
              refine lv_iload hx hb dX6_isTheBody_60 (lv_at hl 0 rfl) ?_
              obtain ⟨hg12, hk⟩ := gd_s hk
              refine wa_aaload_8 hx hb hK hP (vp_lt hg5) hg12 dX6_isTheBody_62 ?_
              refine gf_RX6_421 hx hb hts hown hK hP (lt_T (vp_lt hg5) (vp_lt hg12)) dX6_isTheBody_63 ?_
              refine lv_aload_n hx hb dX6_isTheBody_66 rfl (lv_at hl 4 rfl) ?_
              refine gf_RX6_444 hx hb hts hown hK hP hi2 dX6_isTheBody_67 ?_
              have jn14 : ∀ (v13 : Int32) (H : Heap) (locs : List Loc) (ls : Array Slot), f_X6_isTheBody_J78 (f_X6_isTheBody_L38 i2 X i1 n) k6 v8 X9 i1 X i2 v13 = some (Xz, r) → wP Z (X9, M, O) H → va_S (wA Z s.heap.size) s.heap H locs → lv_has ls 6 [(4, .int v8), (3, .ref (Z.2.2 7 ((X.1 12 i2 8)).toNatClampNeg)), (0, .ref (Z.2.2 0 0)), (1, .ref (Z.2.2 1 i1)), (2, .ref (Z.2.2 12 i2))] → W p l e (headSpec ws_X6_isTheBody rm_X6_isTheBody).room s m args below meth c H locs 0 0 (vx_MQ below (cQi Z (Xz, M, O) (.inl r) s.heap.size) (cX Z (Xz, M, O) (.inl r : Int32 ⊕ String) s.heap.size) args s 0 0 (wA Z s.heap.size)) (F0 m 78 ls [.int v13]) := by
                intro v13 H locs ls hk hP hS hl
                unfold f_X6_isTheBody_J78 at hk
                refine lv_istore (lv' := [(5, .int v13), (4, .int v8), (3, .ref (Z.2.2 7 ((X.1 12 i2 8)).toNatClampNeg)), (0, .ref (Z.2.2 0 0)), (1, .ref (Z.2.2 1 i1)), (2, .ref (Z.2.2 12 i2))]) hx hb dX6_isTheBody_78 hl (by decide) rfl (fun ls hl => ?_)
                refine lv_iload hx hb dX6_isTheBody_80 (lv_at hl 0 rfl) ?_
                refine lv_if_ne (tgt := 109) hx hb dX6_isTheBody_82 (by decide) (fun cz15 => ?_) (fun cz15 => ?_)
                · have hk := it_f cz15 hk
                  refine lv_iinc (v := (v8 + (1 : Int32))) (lv' := [(4, .int (v8 + (1 : Int32))), (5, .int v13), (3, .ref (Z.2.2 7 ((X.1 12 i2 8)).toNatClampNeg)), (0, .ref (Z.2.2 0 0)), (1, .ref (Z.2.2 1 i1)), (2, .ref (Z.2.2 12 i2))]) hx hb dX6_isTheBody_109 hl (k := 1) rfl rfl (by decide) rfl (fun ls hl => ?_)
                  refine lv_goto (tgt := 38) hx hb dX6_isTheBody_112 (by decide) ?_
                  exact ih (v8 + (1 : Int32)) X9 _ _ _ hk hP hS (lv_sub hl [0, 2, 3, 4, 5] rfl)
                · have hk := it_t cz15 hk
                  refine lv_aload_n hx hb dX6_isTheBody_85 rfl (lv_at hl 3 rfl) ?_
                  refine lv_aload_n hx hb dX6_isTheBody_86 rfl (lv_at hl 4 rfl) ?_
                  refine lv_aload_n hx hb dX6_isTheBody_87 rfl (lv_at hl 2 rfl) ?_
                  refine gf_RX6_151 hx hb hts hown hK hP (vp_lt hg5) dX6_isTheBody_88 ?_
                  refine lv_iload hx hb dX6_isTheBody_91 (lv_at hl 1 rfl) ?_
                  obtain ⟨hg16, hk⟩ := gd_s hk
                  refine wa_aaload_8 hx hb hK hP (vp_lt hg5) hg16 dX6_isTheBody_93 ?_
                  obtain ⟨X18, v17, hf19, hk⟩ := b1_s hk
                  refine wc_iV0 (rest := []) (As := [.ref (Z.2.2 1 i1), .ref (Z.2.2 4 (5 * ((X.1 12 i2 8)).toNatClampNeg + (v8).toNatClampNeg))]) ⟨hx, hb, hml, hown, hts⟩ (fun sz => k_X6_stepsDoneBy l hfl Z hZ X9 M O i1 (5 * ((X.1 12 i2 8)).toNatClampNeg + (v8).toNatClampNeg) hi1 (lt_T (vp_lt hg5) (vp_lt hg16)) X18 v17 hf19 sz) (cw_RX6_428 (args := args) (s := s) hts (Nat.le_of_ble_eq_true rfl) (Nat.le_of_ble_eq_true rfl)) hE hP hK hS (rv_0 hK hP (by decide)) rfl hl.1 rfl (Nat.le_of_ble_eq_true rfl) dX6_isTheBody_94 ⟨Nat.le_of_ble_eq_true rfl, Nat.le_of_ble_eq_true rfl⟩ (fun H locs hP hS => ?_)
                  refine lv_aload_n hx hb dX6_isTheBody_97 rfl (lv_at hl 5 rfl) ?_
                  refine gf_RX6_435 hx hb hts hown hK hP hi2 dX6_isTheBody_98 ?_
                  refine lv_iload hx hb dX6_isTheBody_101 (lv_at hl 1 rfl) ?_
                  obtain ⟨hg20, hk⟩ := gd_s hk
                  refine wa_iaload_13 hx hb hK hP hi2 hg20 dX6_isTheBody_103 ?_
                  refine lv_icmp_eq (tgt := 109) hx hb dX6_isTheBody_104 (by decide) (fun cz21 => ?_) (fun cz21 => ?_)
                  · have hk := it_t cz21 hk
                    refine lv_iinc (v := (v8 + (1 : Int32))) (lv' := [(4, .int (v8 + (1 : Int32))), (5, .int v13), (3, .ref (Z.2.2 7 ((X.1 12 i2 8)).toNatClampNeg)), (0, .ref (Z.2.2 0 0)), (1, .ref (Z.2.2 1 i1)), (2, .ref (Z.2.2 12 i2))]) hx hb dX6_isTheBody_109 hl (k := 1) rfl rfl (by decide) rfl (fun ls hl => ?_)
                    refine lv_goto (tgt := 38) hx hb dX6_isTheBody_112 (by decide) ?_
                    exact ih (v8 + (1 : Int32)) X18 _ _ _ hk hP hS (lv_sub hl [0, 2, 3, 4, 5] rfl)
                  · have hk := it_f cz21 hk
                    refine lv_iconst (v := (0 : Int32)) hx hb dX6_isTheBody_107 (by decide) ?_
                    cases (show some _ = some _ from hk)
                    exact we_z hx hb hr hlocks (show okz (0 : Int32) by unfold okz; decide).1 hP rfl hS dX6_isTheBody_108 (by decide) (by decide)
              refine lv_icmp_le (tgt := 77) hx hb dX6_isTheBody_70 (by decide) (fun cz22 => ?_) (fun cz22 => ?_)
              · have hk := it_t cz22 hk
                refine lv_iconst (v := (0 : Int32)) hx hb dX6_isTheBody_77 (by decide) ?_
                exact jn14 (0 : Int32) _ _ _ hk hP hS (lv_sub hl [0, 1, 2, 3, 4] rfl)
              · have hk := it_f cz22 hk
                refine lv_iconst (v := (1 : Int32)) hx hb dX6_isTheBody_73 (by decide) ?_
                refine lv_goto (tgt := 78) hx hb dX6_isTheBody_74 (by decide) ?_
                exact jn14 (1 : Int32) _ _ _ hk hP hS (lv_sub hl [0, 1, 2, 3, 4] rfl)
      exact lp6 1000 (0 : Int32) X _ _ _ hk hP hS (lv_sub hl [0, 1, 2, 3, 4] rfl)
    · have hk := it_f cz4 hk
      refine lv_iconst (v := (0 : Int32)) hx hb dX6_isTheBody_23 (by decide) ?_
      cases (show some _ = some _ from hk)
      exact we_z hx hb hr hlocks (show okz (0 : Int32) by unfold okz; decide).1 hP rfl hS dX6_isTheBody_24 (by decide) (by decide)