set_option maxHeartbeats 4000000 in
set_option maxRecDepth 100000 in
theorem k_X7_steps (l : Launch) (hfl : l.stackTraces = false) (Z : ZT) (hZ : wD Z) (X M O : SS) (p0 : Int32) (p1 : Int32) (Mz : SS) (r : Int32) (hf : f_X7_steps M p0 p1 = some (Mz, r)) (sz : Nat) : vx_Met l yX7_steps ws_X7_steps rm_X7_steps (va_Pc [.ref (Z.2.2 26 0), .int p0, .int p1] (cP Z (X, M, O) sz)) (cQi Z (X, Mz, O) (.inl r) sz) (cX Z (X, Mz, O) (.inl r : Int32 ⊕ String) sz) 0 0 (wA Z sz) := by
  refine vx_ofW (cc := cX7_steps) (maxL := 4) (ret := (some .int)) (by decide) rfl ?_
  intro p e s m args below meth c s₁ B hml htab hv
  obtain ⟨hargs, hsz, hE, hP, hK⟩ := hv
  have hx := B.exec
  have hb := B.bytes
  have hr := B.returns
  have hts0 := atoms_spec (ws := ws_X7_steps) B.pre
  have hts : ∀ w ∈ lw_all, w.before args s = true := fun w h => hts0 w (List.mem_cons_of_mem _ h)
  have hown : s.vm.findClass RX7 = some m.cls := findClass_of_methodNamed B.named
  have hlocks := B.notSynchronized
  have hout9 : ∀ (pc9 : Nat), ∀ x ∈ c.exceptionTable.toList, covers x pc9 = false := fun _ x hx9 => (htab x hx9).elim
  subst hsz
  have hS : va_S (wA Z s.heap.size) s.heap s.heap [] := va_S.rf
  have hl := lv_entry ([.ref (Z.2.2 26 0), .int p0, .int p1]) (n := 4) (Nat.le_of_ble_eq_true rfl)
  have hen : entryFrame m args 4 = entryFrame m ([.ref (Z.2.2 26 0), .int p0, .int p1] : List Value).toArray 4 := by rw [hargs]
  rw [hen, lg_entry_eq]
  generalize (lg_sl ([.ref (Z.2.2 26 0), .int p0, .int p1]) ++ List.replicate (4 - (lg_sl ([.ref (Z.2.2 26 0), .int p0, .int p1])).length) Slot.unset).toArray = ls at hl ⊢
  have hl : lv_has ls 4 [(0, .ref (Z.2.2 26 0)), (1, .int p0), (2, .int p1)] := hl
  have hk := hf
  unfold f_X7_steps at hk
  refine lv_aload_n hx hb dX7_steps_0 rfl (lv_at hl 0 rfl) ?_
  refine lv_iload_n hx hb dX7_steps_1 rfl (lv_at hl 1 rfl) ?_
  obtain ⟨v1, hf2, hk⟩ := b0_s hk
  refine wc_iV0 (rest := []) (As := [.int p0]) ⟨hx, hb, hml, hown, hts⟩ (fun sz => k_X7_isWork l hfl Z hZ X M O p0 v1 hf2 sz) (cw_RX7_227 (args := args) (s := s) hts (Nat.le_of_ble_eq_true rfl) (Nat.le_of_ble_eq_true rfl)) hE hP hK hS (rv_26 hK hP (by decide)) rfl hl.1 rfl (Nat.le_of_ble_eq_true rfl) dX7_steps_2 ⟨Nat.le_of_ble_eq_true rfl, Nat.le_of_ble_eq_true rfl⟩ (fun H locs hP hS => ?_)
  refine lv_if_eq (tgt := 22) hx hb dX7_steps_5 (by decide) (fun cz3 => ?_) (fun cz3 => ?_)
  · have hk := it_t cz3 hk
    refine lv_aload_n hx hb dX7_steps_22 rfl (lv_at hl 0 rfl) ?_
    refine lv_iconst (v := (1 : Int32)) hx hb dX7_steps_23 (by decide) ?_
    obtain ⟨M5, v4, hf6, hk⟩ := b1_s hk
    refine wc_iV0 (rest := []) (As := [.int (1 : Int32)]) ⟨hx, hb, hml, hown, hts⟩ (fun sz => k_X7_fails l hfl Z hZ X M O (1 : Int32) M5 v4 hf6 sz) (cw_RX7_165 (args := args) (s := s) hts (Nat.le_of_ble_eq_true rfl) (Nat.le_of_ble_eq_true rfl)) hE hP hK hS (rv_26 hK hP (by decide)) rfl hl.1 rfl (Nat.le_of_ble_eq_true rfl) dX7_steps_24 ⟨Nat.le_of_ble_eq_true rfl, Nat.le_of_ble_eq_true rfl⟩ (fun H locs hP hS => ?_)
    cases (show some _ = some _ from hk)
    exact we_i hx hb hr hlocks hP rfl hS dX7_steps_27 (by decide) (by decide)
  · have hk := it_f cz3 hk
    refine lv_aload_n hx hb dX7_steps_8 rfl (lv_at hl 0 rfl) ?_
    refine lv_aload_n hx hb dX7_steps_9 rfl (lv_at hl 0 rfl) ?_
    refine gf_RX7_81 hx hb hts hown hK hP (by decide) dX7_steps_10 ?_
    refine lv_iload_n hx hb dX7_steps_13 rfl (lv_at hl 1 rfl) ?_
    obtain ⟨hg7, hk⟩ := gd_s hk
    refine wa_iaload_40 hx hb hK hP (by decide) hg7 dX7_steps_14 ?_
    refine lv_iload_n hx hb dX7_steps_15 rfl (lv_at hl 2 rfl) ?_
    obtain ⟨v8, hf9, hk⟩ := b0_s hk
    refine wc_iV0 (rest := []) (As := [.int (M.1 40 0 (p0).toNatClampNeg), .int p1]) ⟨hx, hb, hml, hown, hts⟩ (fun sz => k_X7_isTest l hfl Z hZ X M O (M.1 40 0 (p0).toNatClampNeg) p1 v8 hf9 sz) (cw_RX7_208 (args := args) (s := s) hts (Nat.le_of_ble_eq_true rfl) (Nat.le_of_ble_eq_true rfl)) hE hP hK hS (rv_26 hK hP (by decide)) rfl hl.1 rfl (Nat.le_of_ble_eq_true rfl) dX7_steps_16 ⟨Nat.le_of_ble_eq_true rfl, Nat.le_of_ble_eq_true rfl⟩ (fun H locs hP hS => ?_)
    refine lv_if_ne (tgt := 28) hx hb dX7_steps_19 (by decide) (fun cz10 => ?_) (fun cz10 => ?_)
    · have hk := it_f cz10 hk
      refine lv_aload_n hx hb dX7_steps_28 rfl (lv_at hl 0 rfl) ?_
      refine lv_iload_n hx hb dX7_steps_29 rfl (lv_at hl 1 rfl) ?_
      refine lv_iload_n hx hb dX7_steps_30 rfl (lv_at hl 2 rfl) ?_
      obtain ⟨M12, v11, hf13, hk⟩ := b1_s hk
      refine wc_iV0 (rest := []) (As := [.int p0, .int p1]) ⟨hx, hb, hml, hown, hts⟩ (fun sz => k_X7_stepsOf l hfl Z hZ X M O p0 p1 M12 v11 hf13 sz) (cw_RX7_236 (args := args) (s := s) hts (Nat.le_of_ble_eq_true rfl) (Nat.le_of_ble_eq_true rfl)) hE hP hK hS (rv_26 hK hP (by decide)) rfl hl.1 rfl (Nat.le_of_ble_eq_true rfl) dX7_steps_31 ⟨Nat.le_of_ble_eq_true rfl, Nat.le_of_ble_eq_true rfl⟩ (fun H locs hP hS => ?_)
      refine lv_istore_n (lv' := [(3, .int v11), (0, .ref (Z.2.2 26 0)), (1, .int p0), (2, .int p1)]) hx hb dX7_steps_34 rfl hl (by decide) rfl (fun ls hl => ?_)
      refine lv_iload_n hx hb dX7_steps_35 rfl (lv_at hl 0 rfl) ?_
      refine lv_iconst (v := ((-1) : Int32)) hx hb dX7_steps_36 (by decide) ?_
      refine lv_icmp_ne (tgt := 48) hx hb dX7_steps_37 (by decide) (fun cz14 => ?_) (fun cz14 => ?_)
      · have hk := it_f cz14 hk
        refine lv_aload_n hx hb dX7_steps_48 rfl (lv_at hl 1 rfl) ?_
        refine lv_iload_n hx hb dX7_steps_49 rfl (lv_at hl 0 rfl) ?_
        obtain ⟨M16, v15, hf17, hk⟩ := b1_s hk
        refine wc_iV0 (rest := []) (As := [.int v11]) ⟨hx, hb, hml, hown, hts⟩ (fun sz => k_X7_tells l hfl Z hZ X M12 O v11 M16 v15 hf17 sz) (cw_RX7_169 (args := args) (s := s) hts (Nat.le_of_ble_eq_true rfl) (Nat.le_of_ble_eq_true rfl)) hE hP hK hS (rv_26 hK hP (by decide)) rfl hl.1 rfl (Nat.le_of_ble_eq_true rfl) dX7_steps_50 ⟨Nat.le_of_ble_eq_true rfl, Nat.le_of_ble_eq_true rfl⟩ (fun H locs hP hS => ?_)
        cases (show some _ = some _ from hk)
        exact we_i hx hb hr hlocks hP rfl hS dX7_steps_53 (by decide) (by decide)
      · have hk := it_t cz14 hk
        refine lv_aload_n hx hb dX7_steps_40 rfl (lv_at hl 1 rfl) ?_
        refine lv_iconst (v := (2 : Int32)) hx hb dX7_steps_41 (by decide) ?_
        obtain ⟨M19, v18, hf20, hk⟩ := b1_s hk
        refine wc_iV0 (rest := []) (As := [.int (2 : Int32)]) ⟨hx, hb, hml, hown, hts⟩ (fun sz => k_X7_fails l hfl Z hZ X M12 O (2 : Int32) M19 v18 hf20 sz) (cw_RX7_165 (args := args) (s := s) hts (Nat.le_of_ble_eq_true rfl) (Nat.le_of_ble_eq_true rfl)) hE hP hK hS (rv_26 hK hP (by decide)) rfl hl.1 rfl (Nat.le_of_ble_eq_true rfl) dX7_steps_42 ⟨Nat.le_of_ble_eq_true rfl, Nat.le_of_ble_eq_true rfl⟩ (fun H locs hP hS => ?_)
        refine lv_goto (tgt := 53) hx hb dX7_steps_45 (by decide) ?_
        cases (show some _ = some _ from hk)
        exact we_i hx hb hr hlocks hP rfl hS dX7_steps_53 (by decide) (by decide)
    · have hk := it_t cz10 hk
      refine lv_aload_n hx hb dX7_steps_22 rfl (lv_at hl 0 rfl) ?_
      refine lv_iconst (v := (1 : Int32)) hx hb dX7_steps_23 (by decide) ?_
      obtain ⟨M22, v21, hf23, hk⟩ := b1_s hk
      refine wc_iV0 (rest := []) (As := [.int (1 : Int32)]) ⟨hx, hb, hml, hown, hts⟩ (fun sz => k_X7_fails l hfl Z hZ X M O (1 : Int32) M22 v21 hf23 sz) (cw_RX7_165 (args := args) (s := s) hts (Nat.le_of_ble_eq_true rfl) (Nat.le_of_ble_eq_true rfl)) hE hP hK hS (rv_26 hK hP (by decide)) rfl hl.1 rfl (Nat.le_of_ble_eq_true rfl) dX7_steps_24 ⟨Nat.le_of_ble_eq_true rfl, Nat.le_of_ble_eq_true rfl⟩ (fun H locs hP hS => ?_)
      cases (show some _ = some _ from hk)
      exact we_i hx hb hr hlocks hP rfl hS dX7_steps_27 (by decide) (by decide)
set_option maxHeartbeats 4000000 in
set_option maxRecDepth 100000 in
theorem k_X7_hasBody (l : Launch) (hfl : l.stackTraces = false) (Z : ZT) (hZ : wD Z) (X M O : SS) (p0 : Int32) (Mz : SS) (r : Int32) (hf : f_X7_hasBody M p0 = some (Mz, r)) (sz : Nat) : vx_Met l yX7_hasBody ws_X7_hasBody rm_X7_hasBody (va_Pc [.ref (Z.2.2 26 0), .int p0] (cP Z (X, M, O) sz)) (cQi Z (X, Mz, O) (.inl r) sz) (cX Z (X, Mz, O) (.inl r : Int32 ⊕ String) sz) 0 0 (wA Z sz) := by
  refine vx_ofW (cc := cX7_hasBody) (maxL := 2) (ret := (some .boolean)) (by decide) rfl ?_
  intro p e s m args below meth c s₁ B hml htab hv
  obtain ⟨hargs, hsz, hE, hP, hK⟩ := hv
  have hx := B.exec
  have hb := B.bytes
  have hr := B.returns
  have hts0 := atoms_spec (ws := ws_X7_hasBody) B.pre
  have hts : ∀ w ∈ lw_all, w.before args s = true := fun w h => hts0 w (List.mem_cons_of_mem _ h)
  have hown : s.vm.findClass RX7 = some m.cls := findClass_of_methodNamed B.named
  have hlocks := B.notSynchronized
  have hout9 : ∀ (pc9 : Nat), ∀ x ∈ c.exceptionTable.toList, covers x pc9 = false := fun _ x hx9 => (htab x hx9).elim
  subst hsz
  have hS : va_S (wA Z s.heap.size) s.heap s.heap [] := va_S.rf
  have hl := lv_entry ([.ref (Z.2.2 26 0), .int p0]) (n := 2) (Nat.le_of_ble_eq_true rfl)
  have hen : entryFrame m args 2 = entryFrame m ([.ref (Z.2.2 26 0), .int p0] : List Value).toArray 2 := by rw [hargs]
  rw [hen, lg_entry_eq]
  generalize (lg_sl ([.ref (Z.2.2 26 0), .int p0]) ++ List.replicate (2 - (lg_sl ([.ref (Z.2.2 26 0), .int p0])).length) Slot.unset).toArray = ls at hl ⊢
  have hl : lv_has ls 2 [(0, .ref (Z.2.2 26 0)), (1, .int p0)] := hl
  have hk := hf
  unfold f_X7_hasBody at hk
  refine lv_aload_n hx hb dX7_hasBody_0 rfl (lv_at hl 0 rfl) ?_
  refine lv_aload_n hx hb dX7_hasBody_1 rfl (lv_at hl 0 rfl) ?_
  refine lv_iload_n hx hb dX7_hasBody_2 rfl (lv_at hl 1 rfl) ?_
  obtain ⟨v1, hf2, hk⟩ := b0_s hk
  refine wc_iV0 (rest := [.ref (Z.2.2 26 0)]) (As := [.int p0]) ⟨hx, hb, hml, hown, hts⟩ (fun sz => k_X7_isWork l hfl Z hZ X M O p0 v1 hf2 sz) (cw_RX7_227 (args := args) (s := s) hts (Nat.le_of_ble_eq_true rfl) (Nat.le_of_ble_eq_true rfl)) hE hP hK hS (rv_26 hK hP (by decide)) rfl hl.1 rfl (Nat.le_of_ble_eq_true rfl) dX7_hasBody_3 ⟨Nat.le_of_ble_eq_true rfl, Nat.le_of_ble_eq_true rfl⟩ (fun H locs hP hS => ?_)
  have jn4 : ∀ (v3 : Int32) (H : Heap) (locs : List Loc) (ls : Array Slot), f_X7_hasBody_J14 M p0 v3 = some (Mz, r) → wP Z (X, M, O) H → va_S (wA Z s.heap.size) s.heap H locs → lv_has ls 2 [(0, .ref (Z.2.2 26 0)), (1, .int p0)] → W p l e (headSpec ws_X7_hasBody rm_X7_hasBody).room s m args below meth c H locs 0 0 (vx_MQ below (cQi Z (X, Mz, O) (.inl r) s.heap.size) (cX Z (X, Mz, O) (.inl r : Int32 ⊕ String) s.heap.size) args s 0 0 (wA Z s.heap.size)) (F0 m 14 ls [.int v3, .ref (Z.2.2 26 0)]) := by
    intro v3 H locs ls hk hP hS hl
    unfold f_X7_hasBody_J14 at hk
    obtain ⟨M5, eM5, hk⟩ := lq_s hk
    refine pf_RX7_37 hx hb hts hown hZ hK hP hS (by decide) dX7_hasBody_14 (fun H locs hP hS => ?_)
    rw [← eM5] at hP
    refine lv_aload_n hx hb dX7_hasBody_17 rfl (lv_at hl 0 rfl) ?_
    refine gf_RX7_37 hx hb hts hown hK hP (by decide) dX7_hasBody_18 ?_
    refine lv_if_ne (tgt := 37) hx hb dX7_hasBody_21 (by decide) (fun cz6 => ?_) (fun cz6 => ?_)
    · have hk := it_f cz6 hk
      refine lv_iconst (v := (0 : Int32)) hx hb dX7_hasBody_37 (by decide) ?_
      cases (show some _ = some _ from hk)
      exact we_z hx hb hr hlocks (show okz (0 : Int32) by unfold okz; decide).1 hP rfl hS dX7_hasBody_38 (by decide) (by decide)
    · have hk := it_t cz6 hk
      refine lv_aload_n hx hb dX7_hasBody_24 rfl (lv_at hl 0 rfl) ?_
      refine gf_RX7_91 hx hb hts hown hK hP (by decide) dX7_hasBody_25 ?_
      refine lv_iload_n hx hb dX7_hasBody_28 rfl (lv_at hl 1 rfl) ?_
      obtain ⟨hg7, hk⟩ := gd_s hk
      refine wa_baload_43 hx hb hK hP (by decide) hg7 dX7_hasBody_29 ?_
      refine lv_if_eq (tgt := 37) hx hb dX7_hasBody_30 (by decide) (fun cz8 => ?_) (fun cz8 => ?_)
      · have hk := it_t cz8 hk
        refine lv_iconst (v := (0 : Int32)) hx hb dX7_hasBody_37 (by decide) ?_
        cases (show some _ = some _ from hk)
        exact we_z hx hb hr hlocks (show okz (0 : Int32) by unfold okz; decide).1 hP rfl hS dX7_hasBody_38 (by decide) (by decide)
      · have hk := it_f cz8 hk
        refine lv_iconst (v := (1 : Int32)) hx hb dX7_hasBody_33 (by decide) ?_
        refine lv_goto (tgt := 38) hx hb dX7_hasBody_34 (by decide) ?_
        cases (show some _ = some _ from hk)
        exact we_z hx hb hr hlocks (show okz (1 : Int32) by unfold okz; decide).1 hP rfl hS dX7_hasBody_38 (by decide) (by decide)
  refine lv_if_eq (tgt := 13) hx hb dX7_hasBody_6 (by decide) (fun cz9 => ?_) (fun cz9 => ?_)
  · have hk := it_t cz9 hk
    refine lv_iconst (v := (1 : Int32)) hx hb dX7_hasBody_13 (by decide) ?_
    exact jn4 (1 : Int32) _ _ _ hk hP hS (lv_sub hl [0, 1] rfl)
  · have hk := it_f cz9 hk
    refine lv_iconst (v := (0 : Int32)) hx hb dX7_hasBody_9 (by decide) ?_
    refine lv_goto (tgt := 14) hx hb dX7_hasBody_10 (by decide) ?_
    exact jn4 (0 : Int32) _ _ _ hk hP hS (lv_sub hl [0, 1] rfl)
set_option maxHeartbeats 4000000 in
set_option maxRecDepth 100000 in
theorem k_X7_letter (l : Launch) (hfl : l.stackTraces = false) (Z : ZT) (hZ : wD Z) (X M O : SS) (p0 : Int32) (p1 : Int32) (Mz : SS) (r : Int32) (hf : f_X7_letter M p0 p1 = some (Mz, r)) (sz : Nat) : vx_Met l yX7_letter ws_X7_letter rm_X7_letter (va_Pc [.ref (Z.2.2 26 0), .int p0, .int p1] (cP Z (X, M, O) sz)) (cQi Z (X, Mz, O) (.inl r) sz) (cX Z (X, Mz, O) (.inl r : Int32 ⊕ String) sz) 0 0 (wA Z sz) := by
  refine vx_ofW (cc := cX7_letter) (maxL := 3) (ret := (some .char)) (by decide) rfl ?_
  intro p e s m args below meth c s₁ B hml htab hv
  obtain ⟨hargs, hsz, hE, hP, hK⟩ := hv
  have hx := B.exec
  have hb := B.bytes
  have hr := B.returns
  have hts0 := atoms_spec (ws := ws_X7_letter) B.pre
  have hts : ∀ w ∈ lw_all, w.before args s = true := fun w h => hts0 w (List.mem_cons_of_mem _ h)
  have hown : s.vm.findClass RX7 = some m.cls := findClass_of_methodNamed B.named
  have hlocks := B.notSynchronized
  have hout9 : ∀ (pc9 : Nat), ∀ x ∈ c.exceptionTable.toList, covers x pc9 = false := fun _ x hx9 => (htab x hx9).elim
  subst hsz
  have hS : va_S (wA Z s.heap.size) s.heap s.heap [] := va_S.rf
  have hl := lv_entry ([.ref (Z.2.2 26 0), .int p0, .int p1]) (n := 3) (Nat.le_of_ble_eq_true rfl)
  have hen : entryFrame m args 3 = entryFrame m ([.ref (Z.2.2 26 0), .int p0, .int p1] : List Value).toArray 3 := by rw [hargs]
  rw [hen, lg_entry_eq]
  generalize (lg_sl ([.ref (Z.2.2 26 0), .int p0, .int p1]) ++ List.replicate (3 - (lg_sl ([.ref (Z.2.2 26 0), .int p0, .int p1])).length) Slot.unset).toArray = ls at hl ⊢
  have hl : lv_has ls 3 [(0, .ref (Z.2.2 26 0)), (1, .int p0), (2, .int p1)] := hl
  have hk := hf
  unfold f_X7_letter at hk
  refine lv_aload_n hx hb dX7_letter_0 rfl (lv_at hl 0 rfl) ?_
  refine lv_aload_n hx hb dX7_letter_1 rfl (lv_at hl 0 rfl) ?_
  refine lv_iload_n hx hb dX7_letter_2 rfl (lv_at hl 1 rfl) ?_
  obtain ⟨v1, hf2, hk⟩ := b0_s hk
  refine wc_iV0 (rest := [.ref (Z.2.2 26 0)]) (As := [.int p0]) ⟨hx, hb, hml, hown, hts⟩ (fun sz => k_X7_isWork l hfl Z hZ X M O p0 v1 hf2 sz) (cw_RX7_227 (args := args) (s := s) hts (Nat.le_of_ble_eq_true rfl) (Nat.le_of_ble_eq_true rfl)) hE hP hK hS (rv_26 hK hP (by decide)) rfl hl.1 rfl (Nat.le_of_ble_eq_true rfl) dX7_letter_3 ⟨Nat.le_of_ble_eq_true rfl, Nat.le_of_ble_eq_true rfl⟩ (fun H locs hP hS => ?_)
  have jn4 : ∀ (v3 : Int32) (H : Heap) (locs : List Loc) (ls : Array Slot), f_X7_letter_J43 M p0 p1 v3 = some (Mz, r) → wP Z (X, M, O) H → va_S (wA Z s.heap.size) s.heap H locs → lv_has ls 3 [(0, .ref (Z.2.2 26 0)), (1, .int p0), (2, .int p1)] → W p l e (headSpec ws_X7_letter rm_X7_letter).room s m args below meth c H locs 0 0 (vx_MQ below (cQi Z (X, Mz, O) (.inl r) s.heap.size) (cX Z (X, Mz, O) (.inl r : Int32 ⊕ String) s.heap.size) args s 0 0 (wA Z s.heap.size)) (F0 m 43 ls [.int v3, .ref (Z.2.2 26 0)]) := by
    intro v3 H locs ls hk hP hS hl
    unfold f_X7_letter_J43 at hk
    obtain ⟨M5, eM5, hk⟩ := lq_s hk
    refine pf_RX7_37 hx hb hts hown hZ hK hP hS (by decide) dX7_letter_43 (fun H locs hP hS => ?_)
    rw [← eM5] at hP
    refine lv_aload_n hx hb dX7_letter_46 rfl (lv_at hl 0 rfl) ?_
    refine gf_RX7_37 hx hb hts hown hK hP (by decide) dX7_letter_47 ?_
    refine lv_if_le (tgt := 57) hx hb dX7_letter_50 (by decide) (fun cz6 => ?_) (fun cz6 => ?_)
    · have hk := it_t cz6 hk
      refine lv_aload_n hx hb dX7_letter_57 rfl (lv_at hl 0 rfl) ?_
      refine gf_RX7_40 hx hb hts hown hK hP (by decide) dX7_letter_58 ?_
      refine lv_bipush (v := (24 : Int32)) hx hb dX7_letter_61 (by decide) ?_
      refine lv_iload_n hx hb dX7_letter_63 rfl (lv_at hl 1 rfl) ?_
      refine lv_imul hx hb dX7_letter_64 ?_
      refine lv_iload_n hx hb dX7_letter_65 rfl (lv_at hl 2 rfl) ?_
      refine lv_iadd hx hb dX7_letter_66 ?_
      obtain ⟨hg7, hk⟩ := gd_s hk
      refine wa_caload_27 hx hb hK hP (by decide) hg7 dX7_letter_67 ?_
      obtain ⟨hg8, hk⟩ := gd_s hk
      cases (show some _ = some _ from hk)
      exact we_z hx hb hr hlocks hg8.1 hP rfl hS dX7_letter_68 (by decide) (by decide)
    · have hk := it_f cz6 hk
      refine lv_iconst (v := (0 : Int32)) hx hb dX7_letter_53 (by decide) ?_
      refine lv_goto (tgt := 68) hx hb dX7_letter_54 (by decide) ?_
      cases (show some _ = some _ from hk)
      exact we_z hx hb hr hlocks (show okc (0 : Int32) by unfold okc; decide).1 hP rfl hS dX7_letter_68 (by decide) (by decide)
  refine lv_if_ne (tgt := 13) hx hb dX7_letter_6 (by decide) (fun cz9 => ?_) (fun cz9 => ?_)
  · have hk := it_f cz9 hk
    refine lv_aload_n hx hb dX7_letter_13 rfl (lv_at hl 0 rfl) ?_
    refine gf_RX7_91 hx hb hts hown hK hP (by decide) dX7_letter_14 ?_
    refine lv_iload_n hx hb dX7_letter_17 rfl (lv_at hl 1 rfl) ?_
    obtain ⟨hg10, hk⟩ := gd_s hk
    refine wa_baload_43 hx hb hK hP (by decide) hg10 dX7_letter_18 ?_
    have jn11 : ∀ (H : Heap) (locs : List Loc) (ls : Array Slot), f_X7_letter_J38 M p0 p1  = some (Mz, r) → wP Z (X, M, O) H → va_S (wA Z s.heap.size) s.heap H locs → lv_has ls 3 [(0, .ref (Z.2.2 26 0)), (1, .int p0), (2, .int p1)] → W p l e (headSpec ws_X7_letter rm_X7_letter).room s m args below meth c H locs 0 0 (vx_MQ below (cQi Z (X, Mz, O) (.inl r) s.heap.size) (cX Z (X, Mz, O) (.inl r : Int32 ⊕ String) s.heap.size) args s 0 0 (wA Z s.heap.size)) (F0 m 38 ls [.ref (Z.2.2 26 0)]) := by
      intro  H locs ls hk hP hS hl
      unfold f_X7_letter_J38 at hk
      refine lv_iconst (v := (2 : Int32)) hx hb dX7_letter_38 (by decide) ?_
      refine lv_goto (tgt := 43) hx hb dX7_letter_39 (by decide) ?_
      exact jn4 (2 : Int32) _ _ _ hk hP hS (lv_sub hl [0, 1, 2] rfl)
    refine lv_if_eq (tgt := 38) hx hb dX7_letter_19 (by decide) (fun cz12 => ?_) (fun cz12 => ?_)
    · have hk := it_t cz12 hk
      exact jn11 _ _ _ hk hP hS (lv_sub hl [0, 1, 2] rfl)
    · have hk := it_f cz12 hk
      refine lv_iload_n hx hb dX7_letter_22 rfl (lv_at hl 2 rfl) ?_
      refine lv_iconst (v := (0 : Int32)) hx hb dX7_letter_23 (by decide) ?_
      refine lv_aload_n hx hb dX7_letter_24 rfl (lv_at hl 0 rfl) ?_
      refine gf_RX7_48 hx hb hts hown hK hP (by decide) dX7_letter_25 ?_
      refine lv_iload_n hx hb dX7_letter_28 rfl (lv_at hl 1 rfl) ?_
      obtain ⟨hg13, hk⟩ := gd_s hk
      refine wa_iaload_29 hx hb hK hP (by decide) hg13 dX7_letter_29 ?_
      refine lv_iconst (v := (1 : Int32)) hx hb dX7_letter_30 (by decide) ?_
      refine lv_isub hx hb dX7_letter_31 ?_
      obtain ⟨v14, hf15, hk⟩ := b0_s hk
      refine wc_iS0 (rest := [.ref (Z.2.2 26 0)]) (As := [.int p1, .int (0 : Int32), .int ((M.1 29 0 (p0).toNatClampNeg) - (1 : Int32))]) ⟨hx, hb, hml, hown, hts⟩ (fun sz => k_X7_in l hfl Z hZ X M O p1 (0 : Int32) ((M.1 29 0 (p0).toNatClampNeg) - (1 : Int32)) v14 hf15 sz) (cw_RX7_161 (args := args) (s := s) hts (Nat.le_of_ble_eq_true rfl) (Nat.le_of_ble_eq_true rfl)) hE hP hK hS  rfl hl.1 rfl (Nat.le_of_ble_eq_true rfl) dX7_letter_32 ⟨Nat.le_of_ble_eq_true rfl, Nat.le_of_ble_eq_true rfl⟩ (fun H locs hP hS => ?_)
      refine lv_if_ne (tgt := 42) hx hb dX7_letter_35 (by decide) (fun cz16 => ?_) (fun cz16 => ?_)
      · have hk := it_f cz16 hk
        refine lv_iconst (v := (0 : Int32)) hx hb dX7_letter_42 (by decide) ?_
        exact jn4 (0 : Int32) _ _ _ hk hP hS (lv_sub hl [0, 1, 2] rfl)
      · have hk := it_t cz16 hk
        exact jn11 _ _ _ hk hP hS (lv_sub hl [0, 1, 2] rfl)
  · have hk := it_t cz9 hk
    refine lv_iconst (v := (1 : Int32)) hx hb dX7_letter_9 (by decide) ?_
    refine lv_goto (tgt := 43) hx hb dX7_letter_10 (by decide) ?_
    exact jn4 (1 : Int32) _ _ _ hk hP hS (lv_sub hl [0, 1, 2] rfl)
set_option maxHeartbeats 4000000 in
set_option maxRecDepth 100000 in
theorem k_X7_drop (l : Launch) (hfl : l.stackTraces = false) (Z : ZT) (hZ : wD Z) (X M O : SS) (p0 : Int32) (Mz : SS) (r : Int32) (hf : f_X7_drop M p0 = some (Mz, r)) (sz : Nat) : vx_Met l yX7_drop ws_X7_drop rm_X7_drop (va_Pc [.ref (Z.2.2 26 0), .int p0] (cP Z (X, M, O) sz)) (cQi Z (X, Mz, O) (.inl r) sz) (cX Z (X, Mz, O) (.inl r : Int32 ⊕ String) sz) 0 0 (wA Z sz) := by
  refine vx_ofW (cc := cX7_drop) (maxL := 2) (ret := (some .int)) (by decide) rfl ?_
  intro p e s m args below meth c s₁ B hml htab hv
  obtain ⟨hargs, hsz, hE, hP, hK⟩ := hv
  have hx := B.exec
  have hb := B.bytes
  have hr := B.returns
  have hts0 := atoms_spec (ws := ws_X7_drop) B.pre
  have hts : ∀ w ∈ lw_all, w.before args s = true := fun w h => hts0 w (List.mem_cons_of_mem _ h)
  have hown : s.vm.findClass RX7 = some m.cls := findClass_of_methodNamed B.named
  have hlocks := B.notSynchronized
  have hout9 : ∀ (pc9 : Nat), ∀ x ∈ c.exceptionTable.toList, covers x pc9 = false := fun _ x hx9 => (htab x hx9).elim
  subst hsz
  have hS : va_S (wA Z s.heap.size) s.heap s.heap [] := va_S.rf
  have hl := lv_entry ([.ref (Z.2.2 26 0), .int p0]) (n := 2) (Nat.le_of_ble_eq_true rfl)
  have hen : entryFrame m args 2 = entryFrame m ([.ref (Z.2.2 26 0), .int p0] : List Value).toArray 2 := by rw [hargs]
  rw [hen, lg_entry_eq]
  generalize (lg_sl ([.ref (Z.2.2 26 0), .int p0]) ++ List.replicate (2 - (lg_sl ([.ref (Z.2.2 26 0), .int p0])).length) Slot.unset).toArray = ls at hl ⊢
  have hl : lv_has ls 2 [(0, .ref (Z.2.2 26 0)), (1, .int p0)] := hl
  have hk := hf
  unfold f_X7_drop at hk
  refine lv_aload_n hx hb dX7_drop_0 rfl (lv_at hl 0 rfl) ?_
  refine lv_iload_n hx hb dX7_drop_1 rfl (lv_at hl 1 rfl) ?_
  obtain ⟨v1, hf2, hk⟩ := b0_s hk
  refine wc_iV0 (rest := []) (As := [.int p0]) ⟨hx, hb, hml, hown, hts⟩ (fun sz => k_X7_isWork l hfl Z hZ X M O p0 v1 hf2 sz) (cw_RX7_227 (args := args) (s := s) hts (Nat.le_of_ble_eq_true rfl) (Nat.le_of_ble_eq_true rfl)) hE hP hK hS (rv_26 hK hP (by decide)) rfl hl.1 rfl (Nat.le_of_ble_eq_true rfl) dX7_drop_2 ⟨Nat.le_of_ble_eq_true rfl, Nat.le_of_ble_eq_true rfl⟩ (fun H locs hP hS => ?_)
  refine lv_if_ne (tgt := 14) hx hb dX7_drop_5 (by decide) (fun cz3 => ?_) (fun cz3 => ?_)
  · have hk := it_f cz3 hk
    refine lv_aload_n hx hb dX7_drop_14 rfl (lv_at hl 0 rfl) ?_
    refine gf_RX7_91 hx hb hts hown hK hP (by decide) dX7_drop_15 ?_
    refine lv_iload_n hx hb dX7_drop_18 rfl (lv_at hl 1 rfl) ?_
    obtain ⟨hg4, hk⟩ := gd_s hk
    refine wa_baload_43 hx hb hK hP (by decide) hg4 dX7_drop_19 ?_
    refine lv_if_ne (tgt := 29) hx hb dX7_drop_20 (by decide) (fun cz5 => ?_) (fun cz5 => ?_)
    · have hk := it_f cz5 hk
      refine lv_aload_n hx hb dX7_drop_29 rfl (lv_at hl 0 rfl) ?_
      refine lv_iload_n hx hb dX7_drop_30 rfl (lv_at hl 1 rfl) ?_
      obtain ⟨M7, v6, hf8, hk⟩ := b1_s hk
      refine wc_vV0 (rest := []) (As := [.int p0]) ⟨hx, hb, hml, hown, hts⟩ (fun sz => k_X7_drops l hfl Z hZ X M O p0 M7 v6 hf8 sz) (cw_RX7_249 (args := args) (s := s) hts (Nat.le_of_ble_eq_true rfl) (Nat.le_of_ble_eq_true rfl)) hE hP hK hS (rv_26 hK hP (by decide)) rfl hl.1 rfl (Nat.le_of_ble_eq_true rfl) dX7_drop_31 ⟨Nat.le_of_ble_eq_true rfl, Nat.le_of_ble_eq_true rfl⟩ (fun H locs hP hS => ?_)
      refine lv_aload_n hx hb dX7_drop_34 rfl (lv_at hl 0 rfl) ?_
      refine lv_aload_n hx hb dX7_drop_35 rfl (lv_at hl 0 rfl) ?_
      obtain ⟨v9, hf10, hk⟩ := b0_s hk
      refine wc_iV0 (rest := [.ref (Z.2.2 26 0)]) (As := []) ⟨hx, hb, hml, hown, hts⟩ (fun sz => k_X7_bodyCount l hfl Z hZ X M7 O v9 hf10 sz) (cw_RX7_243 (args := args) (s := s) hts (Nat.le_of_ble_eq_true rfl) (Nat.le_of_ble_eq_true rfl)) hE hP hK hS (rv_26 hK hP (by decide)) rfl hl.1 rfl (Nat.le_of_ble_eq_true rfl) dX7_drop_36 ⟨Nat.le_of_ble_eq_true rfl, Nat.le_of_ble_eq_true rfl⟩ (fun H locs hP hS => ?_)
      obtain ⟨M12, v11, hf13, hk⟩ := b1_s hk
      refine wc_iV0 (rest := []) (As := [.int v9]) ⟨hx, hb, hml, hown, hts⟩ (fun sz => k_X7_tells l hfl Z hZ X M7 O v9 M12 v11 hf13 sz) (cw_RX7_169 (args := args) (s := s) hts (Nat.le_of_ble_eq_true rfl) (Nat.le_of_ble_eq_true rfl)) hE hP hK hS (rv_26 hK hP (by decide)) rfl hl.1 rfl (Nat.le_of_ble_eq_true rfl) dX7_drop_39 ⟨Nat.le_of_ble_eq_true rfl, Nat.le_of_ble_eq_true rfl⟩ (fun H locs hP hS => ?_)
      cases (show some _ = some _ from hk)
      exact we_i hx hb hr hlocks hP rfl hS dX7_drop_42 (by decide) (by decide)
    · have hk := it_t cz5 hk
      refine lv_aload_n hx hb dX7_drop_23 rfl (lv_at hl 0 rfl) ?_
      refine lv_iconst (v := (2 : Int32)) hx hb dX7_drop_24 (by decide) ?_
      obtain ⟨M15, v14, hf16, hk⟩ := b1_s hk
      refine wc_iV0 (rest := []) (As := [.int (2 : Int32)]) ⟨hx, hb, hml, hown, hts⟩ (fun sz => k_X7_fails l hfl Z hZ X M O (2 : Int32) M15 v14 hf16 sz) (cw_RX7_165 (args := args) (s := s) hts (Nat.le_of_ble_eq_true rfl) (Nat.le_of_ble_eq_true rfl)) hE hP hK hS (rv_26 hK hP (by decide)) rfl hl.1 rfl (Nat.le_of_ble_eq_true rfl) dX7_drop_25 ⟨Nat.le_of_ble_eq_true rfl, Nat.le_of_ble_eq_true rfl⟩ (fun H locs hP hS => ?_)
      cases (show some _ = some _ from hk)
      exact we_i hx hb hr hlocks hP rfl hS dX7_drop_28 (by decide) (by decide)
  · have hk := it_t cz3 hk
    refine lv_aload_n hx hb dX7_drop_8 rfl (lv_at hl 0 rfl) ?_
    refine lv_iconst (v := (1 : Int32)) hx hb dX7_drop_9 (by decide) ?_
    obtain ⟨M18, v17, hf19, hk⟩ := b1_s hk
    refine wc_iV0 (rest := []) (As := [.int (1 : Int32)]) ⟨hx, hb, hml, hown, hts⟩ (fun sz => k_X7_fails l hfl Z hZ X M O (1 : Int32) M18 v17 hf19 sz) (cw_RX7_165 (args := args) (s := s) hts (Nat.le_of_ble_eq_true rfl) (Nat.le_of_ble_eq_true rfl)) hE hP hK hS (rv_26 hK hP (by decide)) rfl hl.1 rfl (Nat.le_of_ble_eq_true rfl) dX7_drop_10 ⟨Nat.le_of_ble_eq_true rfl, Nat.le_of_ble_eq_true rfl⟩ (fun H locs hP hS => ?_)
    cases (show some _ = some _ from hk)
    exact we_i hx hb hr hlocks hP rfl hS dX7_drop_13 (by decide) (by decide)
set_option maxHeartbeats 4000000 in
set_option maxRecDepth 100000 in
theorem k_X7_capacity (l : Launch) (hfl : l.stackTraces = false) (Z : ZT) (hZ : wD Z) (X M O : SS) (p0 : Int32) (Mz : SS) (r : Int32) (hf : f_X7_capacity M p0 = some (Mz, r)) (sz : Nat) : vx_Met l yX7_capacity ws_X7_capacity rm_X7_capacity (va_Pc [.ref (Z.2.2 26 0), .int p0] (cP Z (X, M, O) sz)) (cQi Z (X, Mz, O) (.inl r) sz) (cX Z (X, Mz, O) (.inl r : Int32 ⊕ String) sz) 0 0 (wA Z sz) := by
  refine vx_ofW (cc := cX7_capacity) (maxL := 2) (ret := (some .int)) (by decide) rfl ?_
  intro p e s m args below meth c s₁ B hml htab hv
  obtain ⟨hargs, hsz, hE, hP, hK⟩ := hv
  have hx := B.exec
  have hb := B.bytes
  have hr := B.returns
  have hts0 := atoms_spec (ws := ws_X7_capacity) B.pre
  have hts : ∀ w ∈ lw_all, w.before args s = true := fun w h => hts0 w (List.mem_cons_of_mem _ h)
  have hown : s.vm.findClass RX7 = some m.cls := findClass_of_methodNamed B.named
  have hlocks := B.notSynchronized
  have hout9 : ∀ (pc9 : Nat), ∀ x ∈ c.exceptionTable.toList, covers x pc9 = false := fun _ x hx9 => (htab x hx9).elim
  subst hsz
  have hS : va_S (wA Z s.heap.size) s.heap s.heap [] := va_S.rf
  have hl := lv_entry ([.ref (Z.2.2 26 0), .int p0]) (n := 2) (Nat.le_of_ble_eq_true rfl)
  have hen : entryFrame m args 2 = entryFrame m ([.ref (Z.2.2 26 0), .int p0] : List Value).toArray 2 := by rw [hargs]
  rw [hen, lg_entry_eq]
  generalize (lg_sl ([.ref (Z.2.2 26 0), .int p0]) ++ List.replicate (2 - (lg_sl ([.ref (Z.2.2 26 0), .int p0])).length) Slot.unset).toArray = ls at hl ⊢
  have hl : lv_has ls 2 [(0, .ref (Z.2.2 26 0)), (1, .int p0)] := hl
  have hk := hf
  unfold f_X7_capacity at hk
  refine lv_iload_n hx hb dX7_capacity_0 rfl (lv_at hl 1 rfl) ?_
  refine lv_iconst (v := (1 : Int32)) hx hb dX7_capacity_1 (by decide) ?_
  refine lv_bipush (v := (40 : Int32)) hx hb dX7_capacity_2 (by decide) ?_
  obtain ⟨v1, hf2, hk⟩ := b0_s hk
  refine wc_iS0 (rest := []) (As := [.int p0, .int (1 : Int32), .int (40 : Int32)]) ⟨hx, hb, hml, hown, hts⟩ (fun sz => k_X7_in l hfl Z hZ X M O p0 (1 : Int32) (40 : Int32) v1 hf2 sz) (cw_RX7_161 (args := args) (s := s) hts (Nat.le_of_ble_eq_true rfl) (Nat.le_of_ble_eq_true rfl)) hE hP hK hS  rfl hl.1 rfl (Nat.le_of_ble_eq_true rfl) dX7_capacity_4 ⟨Nat.le_of_ble_eq_true rfl, Nat.le_of_ble_eq_true rfl⟩ (fun H locs hP hS => ?_)
  refine lv_if_ne (tgt := 16) hx hb dX7_capacity_7 (by decide) (fun cz3 => ?_) (fun cz3 => ?_)
  · have hk := it_f cz3 hk
    refine lv_aload_n hx hb dX7_capacity_16 rfl (lv_at hl 0 rfl) ?_
    refine lv_iload_n hx hb dX7_capacity_17 rfl (lv_at hl 1 rfl) ?_
    obtain ⟨M4, eM4, hk⟩ := lq_s hk
    refine pf_RX7_28 hx hb hts hown hZ hK hP hS (by decide) dX7_capacity_18 (fun H locs hP hS => ?_)
    rw [← eM4] at hP
    refine lv_aload_n hx hb dX7_capacity_21 rfl (lv_at hl 0 rfl) ?_
    refine lv_aload_n hx hb dX7_capacity_22 rfl (lv_at hl 0 rfl) ?_
    obtain ⟨M6, v5, hf7, hk⟩ := b1_s hk
    refine wc_iV0 (rest := [.ref (Z.2.2 26 0)]) (As := []) ⟨hx, hb, hml, hown, hts⟩ (fun sz => k_X7_makesRoom l hfl Z hZ X M4 O M6 v5 hf7 sz) (cw_RX7_224 (args := args) (s := s) hts (Nat.le_of_ble_eq_true rfl) (Nat.le_of_ble_eq_true rfl)) hE hP hK hS (rv_26 hK hP (by decide)) rfl hl.1 rfl (Nat.le_of_ble_eq_true rfl) dX7_capacity_23 ⟨Nat.le_of_ble_eq_true rfl, Nat.le_of_ble_eq_true rfl⟩ (fun H locs hP hS => ?_)
    obtain ⟨M9, v8, hf10, hk⟩ := b1_s hk
    refine wc_iV0 (rest := []) (As := [.int v5]) ⟨hx, hb, hml, hown, hts⟩ (fun sz => k_X7_tells l hfl Z hZ X M6 O v5 M9 v8 hf10 sz) (cw_RX7_169 (args := args) (s := s) hts (Nat.le_of_ble_eq_true rfl) (Nat.le_of_ble_eq_true rfl)) hE hP hK hS (rv_26 hK hP (by decide)) rfl hl.1 rfl (Nat.le_of_ble_eq_true rfl) dX7_capacity_26 ⟨Nat.le_of_ble_eq_true rfl, Nat.le_of_ble_eq_true rfl⟩ (fun H locs hP hS => ?_)
    cases (show some _ = some _ from hk)
    exact we_i hx hb hr hlocks hP rfl hS dX7_capacity_29 (by decide) (by decide)
  · have hk := it_t cz3 hk
    refine lv_aload_n hx hb dX7_capacity_10 rfl (lv_at hl 0 rfl) ?_
    refine lv_iconst (v := (1 : Int32)) hx hb dX7_capacity_11 (by decide) ?_
    obtain ⟨M12, v11, hf13, hk⟩ := b1_s hk
    refine wc_iV0 (rest := []) (As := [.int (1 : Int32)]) ⟨hx, hb, hml, hown, hts⟩ (fun sz => k_X7_fails l hfl Z hZ X M O (1 : Int32) M12 v11 hf13 sz) (cw_RX7_165 (args := args) (s := s) hts (Nat.le_of_ble_eq_true rfl) (Nat.le_of_ble_eq_true rfl)) hE hP hK hS (rv_26 hK hP (by decide)) rfl hl.1 rfl (Nat.le_of_ble_eq_true rfl) dX7_capacity_12 ⟨Nat.le_of_ble_eq_true rfl, Nat.le_of_ble_eq_true rfl⟩ (fun H locs hP hS => ?_)
    cases (show some _ = some _ from hk)
    exact we_i hx hb hr hlocks hP rfl hS dX7_capacity_15 (by decide) (by decide)
set_option maxHeartbeats 4000000 in
set_option maxRecDepth 100000 in
theorem k_X7_bodies (l : Launch) (hfl : l.stackTraces = false) (Z : ZT) (hZ : wD Z) (X M O : SS) (Mz : SS) (r : Int32) (hf : f_X7_bodies M = some (Mz, r)) (sz : Nat) : vx_Met l yX7_bodies ws_X7_bodies rm_X7_bodies (va_Pc [.ref (Z.2.2 26 0)] (cP Z (X, M, O) sz)) (cQi Z (X, Mz, O) (.inl r) sz) (cX Z (X, Mz, O) (.inl r : Int32 ⊕ String) sz) 0 0 (wA Z sz) := by
  refine vx_ofW (cc := cX7_bodies) (maxL := 1) (ret := (some .int)) (by decide) rfl ?_
  intro p e s m args below meth c s₁ B hml htab hv
  obtain ⟨hargs, hsz, hE, hP, hK⟩ := hv
  have hx := B.exec
  have hb := B.bytes
  have hr := B.returns
  have hts0 := atoms_spec (ws := ws_X7_bodies) B.pre
  have hts : ∀ w ∈ lw_all, w.before args s = true := fun w h => hts0 w (List.mem_cons_of_mem _ h)
  have hown : s.vm.findClass RX7 = some m.cls := findClass_of_methodNamed B.named
  have hlocks := B.notSynchronized
  have hout9 : ∀ (pc9 : Nat), ∀ x ∈ c.exceptionTable.toList, covers x pc9 = false := fun _ x hx9 => (htab x hx9).elim
  subst hsz
  have hS : va_S (wA Z s.heap.size) s.heap s.heap [] := va_S.rf
  have hl := lv_entry ([.ref (Z.2.2 26 0)]) (n := 1) (Nat.le_of_ble_eq_true rfl)
  have hen : entryFrame m args 1 = entryFrame m ([.ref (Z.2.2 26 0)] : List Value).toArray 1 := by rw [hargs]
  rw [hen, lg_entry_eq]
  generalize (lg_sl ([.ref (Z.2.2 26 0)]) ++ List.replicate (1 - (lg_sl ([.ref (Z.2.2 26 0)])).length) Slot.unset).toArray = ls at hl ⊢
  have hl : lv_has ls 1 [(0, .ref (Z.2.2 26 0))] := hl
  have hk := hf
  unfold f_X7_bodies at hk
  refine lv_aload_n hx hb dX7_bodies_0 rfl (lv_at hl 0 rfl) ?_
  refine lv_aload_n hx hb dX7_bodies_1 rfl (lv_at hl 0 rfl) ?_
  obtain ⟨v1, hf2, hk⟩ := b0_s hk
  refine wc_iV0 (rest := [.ref (Z.2.2 26 0)]) (As := []) ⟨hx, hb, hml, hown, hts⟩ (fun sz => k_X7_bodyCount l hfl Z hZ X M O v1 hf2 sz) (cw_RX7_243 (args := args) (s := s) hts (Nat.le_of_ble_eq_true rfl) (Nat.le_of_ble_eq_true rfl)) hE hP hK hS (rv_26 hK hP (by decide)) rfl hl.1 rfl (Nat.le_of_ble_eq_true rfl) dX7_bodies_2 ⟨Nat.le_of_ble_eq_true rfl, Nat.le_of_ble_eq_true rfl⟩ (fun H locs hP hS => ?_)
  obtain ⟨M4, v3, hf5, hk⟩ := b1_s hk
  refine wc_iV0 (rest := []) (As := [.int v1]) ⟨hx, hb, hml, hown, hts⟩ (fun sz => k_X7_tells l hfl Z hZ X M O v1 M4 v3 hf5 sz) (cw_RX7_169 (args := args) (s := s) hts (Nat.le_of_ble_eq_true rfl) (Nat.le_of_ble_eq_true rfl)) hE hP hK hS (rv_26 hK hP (by decide)) rfl hl.1 rfl (Nat.le_of_ble_eq_true rfl) dX7_bodies_5 ⟨Nat.le_of_ble_eq_true rfl, Nat.le_of_ble_eq_true rfl⟩ (fun H locs hP hS => ?_)
  cases (show some _ = some _ from hk)
  exact we_i hx hb hr hlocks hP rfl hS dX7_bodies_8 (by decide) (by decide)
set_option maxHeartbeats 4000000 in
set_option maxRecDepth 100000 in
theorem k_X7_copyCount (l : Launch) (hfl : l.stackTraces = false) (Z : ZT) (hZ : wD Z) (X M O : SS) (p0 : Int32) (r : Int32) (hf : f_X7_copyCount M p0 = some (r)) (sz : Nat) : vx_Met l yX7_copyCount ws_X7_copyCount rm_X7_copyCount (va_Pc [.ref (Z.2.2 26 0), .int p0] (cP Z (X, M, O) sz)) (cQi Z (X, M, O) (.inl r) sz) (cX Z (X, M, O) (.inl r : Int32 ⊕ String) sz) 0 0 (wA Z sz) := by
  refine vx_ofW (cc := cX7_copyCount) (maxL := 3) (ret := (some .int)) (by decide) rfl ?_
  intro p e s m args below meth c s₁ B hml htab hv
  obtain ⟨hargs, hsz, hE, hP, hK⟩ := hv
  have hx := B.exec
  have hb := B.bytes
  have hr := B.returns
  have hts0 := atoms_spec (ws := ws_X7_copyCount) B.pre
  have hts : ∀ w ∈ lw_all, w.before args s = true := fun w h => hts0 w (List.mem_cons_of_mem _ h)
  have hown : s.vm.findClass RX7 = some m.cls := findClass_of_methodNamed B.named
  have hlocks := B.notSynchronized
  have hout9 : ∀ (pc9 : Nat), ∀ x ∈ c.exceptionTable.toList, covers x pc9 = false := fun _ x hx9 => (htab x hx9).elim
  subst hsz
  have hS : va_S (wA Z s.heap.size) s.heap s.heap [] := va_S.rf
  have hl := lv_entry ([.ref (Z.2.2 26 0), .int p0]) (n := 3) (Nat.le_of_ble_eq_true rfl)
  have hen : entryFrame m args 3 = entryFrame m ([.ref (Z.2.2 26 0), .int p0] : List Value).toArray 3 := by rw [hargs]
  rw [hen, lg_entry_eq]
  generalize (lg_sl ([.ref (Z.2.2 26 0), .int p0]) ++ List.replicate (3 - (lg_sl ([.ref (Z.2.2 26 0), .int p0])).length) Slot.unset).toArray = ls at hl ⊢
  have hl : lv_has ls 3 [(0, .ref (Z.2.2 26 0)), (1, .int p0)] := hl
  have hk := hf
  unfold f_X7_copyCount at hk
  refine lv_iconst (v := (0 : Int32)) hx hb dX7_copyCount_0 (by decide) ?_
  refine lv_istore_n (lv' := [(2, .int (0 : Int32)), (0, .ref (Z.2.2 26 0)), (1, .int p0)]) hx hb dX7_copyCount_1 rfl hl (by decide) rfl (fun ls hl => ?_)
  obtain ⟨k1, hk1, hk⟩ := gn hk
  have ex1 : ∀ (v2 : Int32) (H : Heap) (locs : List Loc) (ls : Array Slot), k1 v2 = some (r) → wP Z (X, M, O) H → va_S (wA Z s.heap.size) s.heap H locs → lv_has ls 3 [(2, .int v2)] → W p l e (headSpec ws_X7_copyCount rm_X7_copyCount).room s m args below meth c H locs 0 0 (vx_MQ below (cQi Z (X, M, O) (.inl r) s.heap.size) (cX Z (X, M, O) (.inl r : Int32 ⊕ String) s.heap.size) args s 0 0 (wA Z s.heap.size)) (F0 m 26 ls []) := by
    intro v2 H locs ls hk hP hS hl
    subst hk1
    refine lv_iload_n hx hb dX7_copyCount_26 rfl (lv_at hl 0 rfl) ?_
    cases (show some _ = some _ from hk)
    exact we_i hx hb hr hlocks hP rfl hS dX7_copyCount_27 (by decide) (by decide)
  have lp1 : ∀ (n : Nat) (v3 : Int32) (H : Heap) (locs : List Loc) (ls : Array Slot), f_X7_copyCount_L2 p0 M n v3 k1 = some (r) → wP Z (X, M, O) H → va_S (wA Z s.heap.size) s.heap H locs → lv_has ls 3 [(2, .int v3), (0, .ref (Z.2.2 26 0)), (1, .int p0)] → W p l e (headSpec ws_X7_copyCount rm_X7_copyCount).room s m args below meth c H locs 0 0 (vx_MQ below (cQi Z (X, M, O) (.inl r) s.heap.size) (cX Z (X, M, O) (.inl r : Int32 ⊕ String) s.heap.size) args s 0 0 (wA Z s.heap.size)) (F0 m 2 ls []) := by
    intro n
    induction n with
    | zero =>
      intro v3 H locs ls hk
      rw [f_X7_copyCount_L2] at hk
      exact nomatch (show none = some _ from hk)
    | succ n ih =>
      intro v3 H locs ls hk hP hS hl
      rw [f_X7_copyCount_L2] at hk
      refine lv_iload_n hx hb dX7_copyCount_2 rfl (lv_at hl 0 rfl) ?_
      refine lv_iconst (v := (3 : Int32)) hx hb dX7_copyCount_3 (by decide) ?_
      refine lv_icmp_ge (tgt := 26) hx hb dX7_copyCount_4 (by decide) (fun cz4 => ?_) (fun cz4 => ?_)
      · have hk := it_t cz4 hk
        exact ex1 v3 _ _ _ hk hP hS (lv_sub hl [0] rfl)
      · have hk := it_f cz4 hk
        refine lv_aload_n hx hb dX7_copyCount_7 rfl (lv_at hl 1 rfl) ?_
        refine gf_RX7_119 hx hb hts hown hK hP (by decide) dX7_copyCount_8 ?_
        refine lv_iconst (v := (3 : Int32)) hx hb dX7_copyCount_11 (by decide) ?_
        refine lv_iload_n hx hb dX7_copyCount_12 rfl (lv_at hl 2 rfl) ?_
        refine lv_imul hx hb dX7_copyCount_13 ?_
        refine lv_iload_n hx hb dX7_copyCount_14 rfl (lv_at hl 0 rfl) ?_
        refine lv_iadd hx hb dX7_copyCount_15 ?_
        obtain ⟨hg5, hk⟩ := gd_s hk
        refine wa_iaload_52 hx hb hK hP (by decide) hg5 dX7_copyCount_16 ?_
        refine lv_if_le (tgt := 26) hx hb dX7_copyCount_17 (by decide) (fun cz6 => ?_) (fun cz6 => ?_)
        · have hk := it_t cz6 hk
          exact ex1 v3 _ _ _ hk hP hS (lv_sub hl [0] rfl)
        · have hk := it_f cz6 hk
          refine lv_iinc (v := (v3 + (1 : Int32))) (lv' := [(2, .int (v3 + (1 : Int32))), (0, .ref (Z.2.2 26 0)), (1, .int p0)]) hx hb dX7_copyCount_20 hl (k := 0) rfl rfl (by decide) rfl (fun ls hl => ?_)
          refine lv_goto (tgt := 2) hx hb dX7_copyCount_23 (by decide) ?_
          exact ih (v3 + (1 : Int32)) _ _ _ hk hP hS (lv_sub hl [0, 1, 2] rfl)
  exact lp1 1000 (0 : Int32) _ _ _ hk hP hS (lv_sub hl [0, 1, 2] rfl)
set_option maxHeartbeats 4000000 in
set_option maxRecDepth 100000 in
theorem k_X7_hasCopy (l : Launch) (hfl : l.stackTraces = false) (Z : ZT) (hZ : wD Z) (X M O : SS) (p0 : Int32) (p1 : Int32) (r : Int32) (hf : f_X7_hasCopy M p0 p1 = some (r)) (sz : Nat) : vx_Met l yX7_hasCopy ws_X7_hasCopy rm_X7_hasCopy (va_Pc [.ref (Z.2.2 26 0), .int p0, .int p1] (cP Z (X, M, O) sz)) (cQi Z (X, M, O) (.inl r) sz) (cX Z (X, M, O) (.inl r : Int32 ⊕ String) sz) 0 0 (wA Z sz) := by
  refine vx_ofW (cc := cX7_hasCopy) (maxL := 5) (ret := (some .boolean)) (by decide) rfl ?_
  intro p e s m args below meth c s₁ B hml htab hv
  obtain ⟨hargs, hsz, hE, hP, hK⟩ := hv
  have hx := B.exec
  have hb := B.bytes
  have hr := B.returns
  have hts0 := atoms_spec (ws := ws_X7_hasCopy) B.pre
  have hts : ∀ w ∈ lw_all, w.before args s = true := fun w h => hts0 w (List.mem_cons_of_mem _ h)
  have hown : s.vm.findClass RX7 = some m.cls := findClass_of_methodNamed B.named
  have hlocks := B.notSynchronized
  have hout9 : ∀ (pc9 : Nat), ∀ x ∈ c.exceptionTable.toList, covers x pc9 = false := fun _ x hx9 => (htab x hx9).elim
  subst hsz
  have hS : va_S (wA Z s.heap.size) s.heap s.heap [] := va_S.rf
  have hl := lv_entry ([.ref (Z.2.2 26 0), .int p0, .int p1]) (n := 5) (Nat.le_of_ble_eq_true rfl)
  have hen : entryFrame m args 5 = entryFrame m ([.ref (Z.2.2 26 0), .int p0, .int p1] : List Value).toArray 5 := by rw [hargs]
  rw [hen, lg_entry_eq]
  generalize (lg_sl ([.ref (Z.2.2 26 0), .int p0, .int p1]) ++ List.replicate (5 - (lg_sl ([.ref (Z.2.2 26 0), .int p0, .int p1])).length) Slot.unset).toArray = ls at hl ⊢
  have hl : lv_has ls 5 [(0, .ref (Z.2.2 26 0)), (1, .int p0), (2, .int p1)] := hl
  have hk := hf
  unfold f_X7_hasCopy at hk
  refine lv_iconst (v := (0 : Int32)) hx hb dX7_hasCopy_0 (by decide) ?_
  refine lv_istore_n (lv' := [(3, .int (0 : Int32)), (0, .ref (Z.2.2 26 0)), (1, .int p0), (2, .int p1)]) hx hb dX7_hasCopy_1 rfl hl (by decide) rfl (fun ls hl => ?_)
  refine lv_iconst (v := (0 : Int32)) hx hb dX7_hasCopy_2 (by decide) ?_
  refine lv_istore (lv' := [(4, .int (0 : Int32)), (3, .int (0 : Int32)), (0, .ref (Z.2.2 26 0)), (1, .int p0), (2, .int p1)]) hx hb dX7_hasCopy_3 hl (by decide) rfl (fun ls hl => ?_)
  obtain ⟨k1, hk1, hk⟩ := gn hk
  have ex1 : ∀ (v2 : Int32) (H : Heap) (locs : List Loc) (ls : Array Slot), k1 v2 = some (r) → wP Z (X, M, O) H → va_S (wA Z s.heap.size) s.heap H locs → lv_has ls 5 [(3, .int v2)] → W p l e (headSpec ws_X7_hasCopy rm_X7_hasCopy).room s m args below meth c H locs 0 0 (vx_MQ below (cQi Z (X, M, O) (.inl r) s.heap.size) (cX Z (X, M, O) (.inl r : Int32 ⊕ String) s.heap.size) args s 0 0 (wA Z s.heap.size)) (F0 m 44 ls []) := by
    intro v2 H locs ls hk hP hS hl
    subst hk1
    refine lv_iload_n hx hb dX7_hasCopy_44 rfl (lv_at hl 0 rfl) ?_
    obtain ⟨hg5, hk⟩ := gd_s hk
    cases (show some _ = some _ from hk)
    exact we_z hx hb hr hlocks hg5.1 hP rfl hS dX7_hasCopy_45 (by decide) (by decide)
  have lp1 : ∀ (n : Nat) (v3 : Int32) (v4 : Int32) (H : Heap) (locs : List Loc) (ls : Array Slot), f_X7_hasCopy_L5 p0 M p1 n v3 v4 k1 = some (r) → wP Z (X, M, O) H → va_S (wA Z s.heap.size) s.heap H locs → lv_has ls 5 [(4, .int v3), (3, .int v4), (0, .ref (Z.2.2 26 0)), (1, .int p0), (2, .int p1)] → W p l e (headSpec ws_X7_hasCopy rm_X7_hasCopy).room s m args below meth c H locs 0 0 (vx_MQ below (cQi Z (X, M, O) (.inl r) s.heap.size) (cX Z (X, M, O) (.inl r : Int32 ⊕ String) s.heap.size) args s 0 0 (wA Z s.heap.size)) (F0 m 5 ls []) := by
    intro n
    induction n with
    | zero =>
      intro v3 v4 H locs ls hk
      rw [f_X7_hasCopy_L5] at hk
      exact nomatch (show none = some _ from hk)
    | succ n ih =>
      intro v3 v4 H locs ls hk hP hS hl
      rw [f_X7_hasCopy_L5] at hk
      refine lv_iload hx hb dX7_hasCopy_5 (lv_at hl 0 rfl) ?_
      refine lv_iconst (v := (3 : Int32)) hx hb dX7_hasCopy_7 (by decide) ?_
      refine lv_icmp_ge (tgt := 44) hx hb dX7_hasCopy_8 (by decide) (fun cz6 => ?_) (fun cz6 => ?_)
      · have hk := it_t cz6 hk
        exact ex1 v4 _ _ _ hk hP hS (lv_sub hl [1] rfl)
      · have hk := it_f cz6 hk
        refine lv_iload_n hx hb dX7_hasCopy_11 rfl (lv_at hl 1 rfl) ?_
        refine lv_if_ne (tgt := 32) hx hb dX7_hasCopy_12 (by decide) (fun cz7 => ?_) (fun cz7 => ?_)
        · have hk := it_f cz7 hk
          refine lv_iconst (v := (1 : Int32)) hx hb dX7_hasCopy_32 (by decide) ?_
          refine lv_goto (tgt := 37) hx hb dX7_hasCopy_33 (by decide) ?_
          refine lv_istore_n (lv' := [(3, .int (1 : Int32)), (4, .int v3), (0, .ref (Z.2.2 26 0)), (1, .int p0), (2, .int p1)]) hx hb dX7_hasCopy_37 rfl hl (by decide) rfl (fun ls hl => ?_)
          refine lv_iinc (v := (v3 + (1 : Int32))) (lv' := [(4, .int (v3 + (1 : Int32))), (3, .int (1 : Int32)), (0, .ref (Z.2.2 26 0)), (1, .int p0), (2, .int p1)]) hx hb dX7_hasCopy_38 hl (k := 1) rfl rfl (by decide) rfl (fun ls hl => ?_)
          refine lv_goto (tgt := 5) hx hb dX7_hasCopy_41 (by decide) ?_
          exact ih (v3 + (1 : Int32)) (1 : Int32) _ _ _ hk hP hS (lv_sub hl [0, 1, 2, 3, 4] rfl)
        · have hk := it_t cz7 hk
          refine lv_aload_n hx hb dX7_hasCopy_15 rfl (lv_at hl 2 rfl) ?_
          refine gf_RX7_119 hx hb hts hown hK hP (by decide) dX7_hasCopy_16 ?_
          refine lv_iconst (v := (3 : Int32)) hx hb dX7_hasCopy_19 (by decide) ?_
          refine lv_iload_n hx hb dX7_hasCopy_20 rfl (lv_at hl 3 rfl) ?_
          refine lv_imul hx hb dX7_hasCopy_21 ?_
          refine lv_iload hx hb dX7_hasCopy_22 (lv_at hl 0 rfl) ?_
          refine lv_iadd hx hb dX7_hasCopy_24 ?_
          obtain ⟨hg8, hk⟩ := gd_s hk
          refine wa_iaload_52 hx hb hK hP (by decide) hg8 dX7_hasCopy_25 ?_
          refine lv_iload_n hx hb dX7_hasCopy_26 rfl (lv_at hl 4 rfl) ?_
          refine lv_iconst (v := (1 : Int32)) hx hb dX7_hasCopy_27 (by decide) ?_
          refine lv_iadd hx hb dX7_hasCopy_28 ?_
          refine lv_icmp_ne (tgt := 36) hx hb dX7_hasCopy_29 (by decide) (fun cz9 => ?_) (fun cz9 => ?_)
          · have hk := it_f cz9 hk
            refine lv_iconst (v := (0 : Int32)) hx hb dX7_hasCopy_36 (by decide) ?_
            refine lv_istore_n (lv' := [(3, .int (0 : Int32)), (4, .int v3), (0, .ref (Z.2.2 26 0)), (1, .int p0), (2, .int p1)]) hx hb dX7_hasCopy_37 rfl hl (by decide) rfl (fun ls hl => ?_)
            refine lv_iinc (v := (v3 + (1 : Int32))) (lv' := [(4, .int (v3 + (1 : Int32))), (3, .int (0 : Int32)), (0, .ref (Z.2.2 26 0)), (1, .int p0), (2, .int p1)]) hx hb dX7_hasCopy_38 hl (k := 1) rfl rfl (by decide) rfl (fun ls hl => ?_)
            refine lv_goto (tgt := 5) hx hb dX7_hasCopy_41 (by decide) ?_
            exact ih (v3 + (1 : Int32)) (0 : Int32) _ _ _ hk hP hS (lv_sub hl [0, 1, 2, 3, 4] rfl)
          · have hk := it_t cz9 hk
            refine lv_iconst (v := (1 : Int32)) hx hb dX7_hasCopy_32 (by decide) ?_
            refine lv_goto (tgt := 37) hx hb dX7_hasCopy_33 (by decide) ?_
            refine lv_istore_n (lv' := [(3, .int (1 : Int32)), (4, .int v3), (0, .ref (Z.2.2 26 0)), (1, .int p0), (2, .int p1)]) hx hb dX7_hasCopy_37 rfl hl (by decide) rfl (fun ls hl => ?_)
            refine lv_iinc (v := (v3 + (1 : Int32))) (lv' := [(4, .int (v3 + (1 : Int32))), (3, .int (1 : Int32)), (0, .ref (Z.2.2 26 0)), (1, .int p0), (2, .int p1)]) hx hb dX7_hasCopy_38 hl (k := 1) rfl rfl (by decide) rfl (fun ls hl => ?_)
            refine lv_goto (tgt := 5) hx hb dX7_hasCopy_41 (by decide) ?_
            exact ih (v3 + (1 : Int32)) (1 : Int32) _ _ _ hk hP hS (lv_sub hl [0, 1, 2, 3, 4] rfl)
  exact lp1 1000 (0 : Int32) (0 : Int32) _ _ _ hk hP hS (lv_sub hl [0, 1, 2, 3, 4] rfl)
set_option maxHeartbeats 4000000 in
set_option maxRecDepth 100000 in
theorem k_X7_read (l : Launch) (hfl : l.stackTraces = false) (Z : ZT) (hZ : wD Z) (X M O : SS) (p0 : Int32) (p1 : Int32) (Mz : SS) (r : Int32) (hf : f_X7_read M p0 p1 = some (Mz, r)) (sz : Nat) : vx_Met l yX7_read ws_X7_read rm_X7_read (va_Pc [.ref (Z.2.2 26 0), .int p0, .int p1] (cP Z (X, M, O) sz)) (cQi Z (X, Mz, O) (.inl r) sz) (cX Z (X, Mz, O) (.inl r : Int32 ⊕ String) sz) 0 0 (wA Z sz) := by
  refine vx_ofW (cc := cX7_read) (maxL := 7) (ret := (some .int)) (by decide) rfl ?_
  intro p e s m args below meth c s₁ B hml htab hv
  obtain ⟨hargs, hsz, hE, hP, hK⟩ := hv
  have hx := B.exec
  have hb := B.bytes
  have hr := B.returns
  have hts0 := atoms_spec (ws := ws_X7_read) B.pre
  have hts : ∀ w ∈ lw_all, w.before args s = true := fun w h => hts0 w (List.mem_cons_of_mem _ h)
  have hown : s.vm.findClass RX7 = some m.cls := findClass_of_methodNamed B.named
  have hlocks := B.notSynchronized
  have hout9 : ∀ (pc9 : Nat), ∀ x ∈ c.exceptionTable.toList, covers x pc9 = false := fun _ x hx9 => (htab x hx9).elim
  subst hsz
  have hS : va_S (wA Z s.heap.size) s.heap s.heap [] := va_S.rf
  have hl := lv_entry ([.ref (Z.2.2 26 0), .int p0, .int p1]) (n := 7) (Nat.le_of_ble_eq_true rfl)
  have hen : entryFrame m args 7 = entryFrame m ([.ref (Z.2.2 26 0), .int p0, .int p1] : List Value).toArray 7 := by rw [hargs]
  rw [hen, lg_entry_eq]
  generalize (lg_sl ([.ref (Z.2.2 26 0), .int p0, .int p1]) ++ List.replicate (7 - (lg_sl ([.ref (Z.2.2 26 0), .int p0, .int p1])).length) Slot.unset).toArray = ls at hl ⊢
  have hl : lv_has ls 7 [(0, .ref (Z.2.2 26 0)), (1, .int p0), (2, .int p1)] := hl
  have hk := hf
  unfold f_X7_read at hk
  refine lv_aload_n hx hb dX7_read_0 rfl (lv_at hl 0 rfl) ?_
  refine lv_iload_n hx hb dX7_read_1 rfl (lv_at hl 1 rfl) ?_
  obtain ⟨v1, hf2, hk⟩ := b0_s hk
  refine wc_iV0 (rest := []) (As := [.int p0]) ⟨hx, hb, hml, hown, hts⟩ (fun sz => k_X7_isMember l hfl Z hZ X M O p0 v1 hf2 sz) (cw_RX7_214 (args := args) (s := s) hts (Nat.le_of_ble_eq_true rfl) (Nat.le_of_ble_eq_true rfl)) hE hP hK hS (rv_26 hK hP (by decide)) rfl hl.1 rfl (Nat.le_of_ble_eq_true rfl) dX7_read_2 ⟨Nat.le_of_ble_eq_true rfl, Nat.le_of_ble_eq_true rfl⟩ (fun H locs hP hS => ?_)
  refine lv_if_eq (tgt := 16) hx hb dX7_read_5 (by decide) (fun cz3 => ?_) (fun cz3 => ?_)
  · have hk := it_t cz3 hk
    refine lv_aload_n hx hb dX7_read_16 rfl (lv_at hl 0 rfl) ?_
    refine lv_iconst (v := (1 : Int32)) hx hb dX7_read_17 (by decide) ?_
    obtain ⟨M5, v4, hf6, hk⟩ := b1_s hk
    refine wc_iV0 (rest := []) (As := [.int (1 : Int32)]) ⟨hx, hb, hml, hown, hts⟩ (fun sz => k_X7_fails l hfl Z hZ X M O (1 : Int32) M5 v4 hf6 sz) (cw_RX7_165 (args := args) (s := s) hts (Nat.le_of_ble_eq_true rfl) (Nat.le_of_ble_eq_true rfl)) hE hP hK hS (rv_26 hK hP (by decide)) rfl hl.1 rfl (Nat.le_of_ble_eq_true rfl) dX7_read_18 ⟨Nat.le_of_ble_eq_true rfl, Nat.le_of_ble_eq_true rfl⟩ (fun H locs hP hS => ?_)
    cases (show some _ = some _ from hk)
    exact we_i hx hb hr hlocks hP rfl hS dX7_read_21 (by decide) (by decide)
  · have hk := it_f cz3 hk
    refine lv_aload_n hx hb dX7_read_8 rfl (lv_at hl 0 rfl) ?_
    refine lv_iload_n hx hb dX7_read_9 rfl (lv_at hl 2 rfl) ?_
    obtain ⟨v7, hf8, hk⟩ := b0_s hk
    refine wc_iV0 (rest := []) (As := [.int p1]) ⟨hx, hb, hml, hown, hts⟩ (fun sz => k_X7_isWork l hfl Z hZ X M O p1 v7 hf8 sz) (cw_RX7_227 (args := args) (s := s) hts (Nat.le_of_ble_eq_true rfl) (Nat.le_of_ble_eq_true rfl)) hE hP hK hS (rv_26 hK hP (by decide)) rfl hl.1 rfl (Nat.le_of_ble_eq_true rfl) dX7_read_10 ⟨Nat.le_of_ble_eq_true rfl, Nat.le_of_ble_eq_true rfl⟩ (fun H locs hP hS => ?_)
    refine lv_if_ne (tgt := 22) hx hb dX7_read_13 (by decide) (fun cz9 => ?_) (fun cz9 => ?_)
    · have hk := it_f cz9 hk
      refine lv_aload_n hx hb dX7_read_22 rfl (lv_at hl 0 rfl) ?_
      refine gf_RX7_91 hx hb hts hown hK hP (by decide) dX7_read_23 ?_
      refine lv_iload_n hx hb dX7_read_26 rfl (lv_at hl 2 rfl) ?_
      obtain ⟨hg10, hk⟩ := gd_s hk
      refine wa_baload_43 hx hb hK hP (by decide) hg10 dX7_read_27 ?_
      refine lv_if_ne (tgt := 37) hx hb dX7_read_28 (by decide) (fun cz11 => ?_) (fun cz11 => ?_)
      · have hk := it_f cz11 hk
        refine lv_iconst (v := (3 : Int32)) hx hb dX7_read_37 (by decide) ?_
        refine lv_iload_n hx hb dX7_read_38 rfl (lv_at hl 1 rfl) ?_
        refine lv_imul hx hb dX7_read_39 ?_
        obtain ⟨v12, ev12, hk⟩ := lq_s hk
        refine W.eq (g2 := F0 m 40 ls [.int v12]) (by rw [ev12]) ?_
        refine lv_istore_n (lv' := [(3, .int v12), (0, .ref (Z.2.2 26 0)), (1, .int p0), (2, .int p1)]) hx hb dX7_read_40 rfl hl (by decide) rfl (fun ls hl => ?_)
        refine lv_aload_n hx hb dX7_read_41 rfl (lv_at hl 1 rfl) ?_
        refine lv_iload_n hx hb dX7_read_42 rfl (lv_at hl 2 rfl) ?_
        obtain ⟨v13, hf14, hk⟩ := b0_s hk
        refine wc_iV0 (rest := []) (As := [.int p0]) ⟨hx, hb, hml, hown, hts⟩ (fun sz => k_X7_copyCount l hfl Z hZ X M O p0 v13 hf14 sz) (cw_RX7_253 (args := args) (s := s) hts (Nat.le_of_ble_eq_true rfl) (Nat.le_of_ble_eq_true rfl)) hE hP hK hS (rv_26 hK hP (by decide)) rfl hl.1 rfl (Nat.le_of_ble_eq_true rfl) dX7_read_43 ⟨Nat.le_of_ble_eq_true rfl, Nat.le_of_ble_eq_true rfl⟩ (fun H locs hP hS => ?_)
        refine lv_istore (lv' := [(4, .int v13), (3, .int v12), (0, .ref (Z.2.2 26 0)), (1, .int p0), (2, .int p1)]) hx hb dX7_read_46 hl (by decide) rfl (fun ls hl => ?_)
        refine lv_iload hx hb dX7_read_48 (lv_at hl 0 rfl) ?_
        refine lv_iconst (v := (3 : Int32)) hx hb dX7_read_50 (by decide) ?_
        have jn16 : ∀ (v15 : Int32) (H : Heap) (locs : List Loc) (ls : Array Slot), f_X7_read_J60 v13 v12 M p1 p0 v15 = some (Mz, r) → wP Z (X, M, O) H → va_S (wA Z s.heap.size) s.heap H locs → lv_has ls 7 [(4, .int v13), (3, .int v12), (0, .ref (Z.2.2 26 0)), (1, .int p0), (2, .int p1)] → W p l e (headSpec ws_X7_read rm_X7_read).room s m args below meth c H locs 0 0 (vx_MQ below (cQi Z (X, Mz, O) (.inl r) s.heap.size) (cX Z (X, Mz, O) (.inl r : Int32 ⊕ String) s.heap.size) args s 0 0 (wA Z s.heap.size)) (F0 m 60 ls [.int v15]) := by
          intro v15 H locs ls hk hP hS hl
          unfold f_X7_read_J60 at hk
          refine lv_istore (lv' := [(5, .int v15), (4, .int v13), (3, .int v12), (0, .ref (Z.2.2 26 0)), (1, .int p0), (2, .int p1)]) hx hb dX7_read_60 hl (by decide) rfl (fun ls hl => ?_)
          refine lv_iconst (v := (0 : Int32)) hx hb dX7_read_62 (by decide) ?_
          refine lv_istore (lv' := [(6, .int (0 : Int32)), (5, .int v15), (4, .int v13), (3, .int v12), (0, .ref (Z.2.2 26 0)), (1, .int p0), (2, .int p1)]) hx hb dX7_read_63 hl (by decide) rfl (fun ls hl => ?_)
          obtain ⟨k17, hk17, hk⟩ := gn hk
          have ex17 : ∀ (v18 : Int32) (H : Heap) (locs : List Loc) (ls : Array Slot), k17 v18 = some (Mz, r) → wP Z (X, M, O) H → va_S (wA Z s.heap.size) s.heap H locs → lv_has ls 7 [(5, .int v18), (3, .int v12), (0, .ref (Z.2.2 26 0)), (1, .int p0), (2, .int p1)] → W p l e (headSpec ws_X7_read rm_X7_read).room s m args below meth c H locs 0 0 (vx_MQ below (cQi Z (X, Mz, O) (.inl r) s.heap.size) (cX Z (X, Mz, O) (.inl r : Int32 ⊕ String) s.heap.size) args s 0 0 (wA Z s.heap.size)) (F0 m 102 ls []) := by
            intro v18 H locs ls hk hP hS hl
            subst hk17
            refine lv_iload hx hb dX7_read_102 (lv_at hl 0 rfl) ?_
            refine lv_istore (lv' := [(6, .int v18), (5, .int v18), (3, .int v12), (0, .ref (Z.2.2 26 0)), (1, .int p0), (2, .int p1)]) hx hb dX7_read_104 hl (by decide) rfl (fun ls hl => ?_)
            obtain ⟨k21, hk21, hk⟩ := gn hk
            have ex21 : ∀ (M22 : SS) (H : Heap) (locs : List Loc) (ls : Array Slot), k21 M22 = some (Mz, r) → wP Z (X, M22, O) H → va_S (wA Z s.heap.size) s.heap H locs → lv_has ls 7 [(3, .int v12), (0, .ref (Z.2.2 26 0)), (1, .int p0), (2, .int p1)] → W p l e (headSpec ws_X7_read rm_X7_read).room s m args below meth c H locs 0 0 (vx_MQ below (cQi Z (X, Mz, O) (.inl r) s.heap.size) (cX Z (X, Mz, O) (.inl r : Int32 ⊕ String) s.heap.size) args s 0 0 (wA Z s.heap.size)) (F0 m 140 ls []) := by
              intro M22 H locs ls hk hP hS hl
              subst hk21
              refine lv_aload_n hx hb dX7_read_140 rfl (lv_at hl 1 rfl) ?_
              refine gf_RX7_119 hx hb hts hown hK hP (by decide) dX7_read_141 ?_
              refine lv_iload_n hx hb dX7_read_144 rfl (lv_at hl 0 rfl) ?_
              refine lv_iconst (v := (3 : Int32)) hx hb dX7_read_145 (by decide) ?_
              refine lv_iadd hx hb dX7_read_146 ?_
              refine lv_iconst (v := (1 : Int32)) hx hb dX7_read_147 (by decide) ?_
              refine lv_isub hx hb dX7_read_148 ?_
              refine lv_iconst (v := (0 : Int32)) hx hb dX7_read_149 (by decide) ?_
              obtain ⟨hg25, hk⟩ := gd_s hk
              obtain ⟨M26, eM26, hk⟩ := lq_s hk
              refine wa_iastore_52 hx hb hZ hK hP hS (by decide) hg25 dX7_read_150 (fun H locs hP hS => ?_)
              rw [← eM26] at hP
              refine lv_aload_n hx hb dX7_read_151 rfl (lv_at hl 1 rfl) ?_
              refine gf_RX7_119 hx hb hts hown hK hP (by decide) dX7_read_152 ?_
              refine lv_iload_n hx hb dX7_read_155 rfl (lv_at hl 0 rfl) ?_
              refine lv_aload_n hx hb dX7_read_156 rfl (lv_at hl 1 rfl) ?_
              refine lv_iload_n hx hb dX7_read_157 rfl (lv_at hl 2 rfl) ?_
              obtain ⟨v27, hf28, hk⟩ := b0_s hk
              refine wc_iV0 (rest := [.int v12, .ref (Z.2.2 52 0)]) (As := [.int p0]) ⟨hx, hb, hml, hown, hts⟩ (fun sz => k_X7_copyCount l hfl Z hZ X M26 O p0 v27 hf28 sz) (cw_RX7_253 (args := args) (s := s) hts (Nat.le_of_ble_eq_true rfl) (Nat.le_of_ble_eq_true rfl)) hE hP hK hS (rv_26 hK hP (by decide)) rfl hl.1 rfl (Nat.le_of_ble_eq_true rfl) dX7_read_158 ⟨Nat.le_of_ble_eq_true rfl, Nat.le_of_ble_eq_true rfl⟩ (fun H locs hP hS => ?_)
              refine lv_iadd hx hb dX7_read_161 ?_
              refine lv_iload_n hx hb dX7_read_162 rfl (lv_at hl 3 rfl) ?_
              refine lv_iconst (v := (1 : Int32)) hx hb dX7_read_163 (by decide) ?_
              refine lv_iadd hx hb dX7_read_164 ?_
              obtain ⟨hg29, hk⟩ := gd_s hk
              obtain ⟨M30, eM30, hk⟩ := lq_s hk
              refine wa_iastore_52 hx hb hZ hK hP hS (by decide) hg29 dX7_read_165 (fun H locs hP hS => ?_)
              rw [← eM30] at hP
              refine lv_aload_n hx hb dX7_read_166 rfl (lv_at hl 1 rfl) ?_
              refine lv_aload_n hx hb dX7_read_167 rfl (lv_at hl 1 rfl) ?_
              refine lv_iload_n hx hb dX7_read_168 rfl (lv_at hl 2 rfl) ?_
              obtain ⟨v31, hf32, hk⟩ := b0_s hk
              refine wc_iV0 (rest := [.ref (Z.2.2 26 0)]) (As := [.int p0]) ⟨hx, hb, hml, hown, hts⟩ (fun sz => k_X7_copyCount l hfl Z hZ X M30 O p0 v31 hf32 sz) (cw_RX7_253 (args := args) (s := s) hts (Nat.le_of_ble_eq_true rfl) (Nat.le_of_ble_eq_true rfl)) hE hP hK hS (rv_26 hK hP (by decide)) rfl hl.1 rfl (Nat.le_of_ble_eq_true rfl) dX7_read_169 ⟨Nat.le_of_ble_eq_true rfl, Nat.le_of_ble_eq_true rfl⟩ (fun H locs hP hS => ?_)
              obtain ⟨M34, v33, hf35, hk⟩ := b1_s hk
              refine wc_iV0 (rest := []) (As := [.int v31]) ⟨hx, hb, hml, hown, hts⟩ (fun sz => k_X7_tells l hfl Z hZ X M30 O v31 M34 v33 hf35 sz) (cw_RX7_169 (args := args) (s := s) hts (Nat.le_of_ble_eq_true rfl) (Nat.le_of_ble_eq_true rfl)) hE hP hK hS (rv_26 hK hP (by decide)) rfl hl.1 rfl (Nat.le_of_ble_eq_true rfl) dX7_read_172 ⟨Nat.le_of_ble_eq_true rfl, Nat.le_of_ble_eq_true rfl⟩ (fun H locs hP hS => ?_)
              cases (show some _ = some _ from hk)
              exact we_i hx hb hr hlocks hP rfl hS dX7_read_175 (by decide) (by decide)
            have lp21 : ∀ (n : Nat) (v23 : Int32) (M24 : SS) (H : Heap) (locs : List Loc) (ls : Array Slot), f_X7_read_L106 v12 n v23 M24 k21 = some (Mz, r) → wP Z (X, M24, O) H → va_S (wA Z s.heap.size) s.heap H locs → lv_has ls 7 [(6, .int v23), (3, .int v12), (0, .ref (Z.2.2 26 0)), (1, .int p0), (2, .int p1)] → W p l e (headSpec ws_X7_read rm_X7_read).room s m args below meth c H locs 0 0 (vx_MQ below (cQi Z (X, Mz, O) (.inl r) s.heap.size) (cX Z (X, Mz, O) (.inl r : Int32 ⊕ String) s.heap.size) args s 0 0 (wA Z s.heap.size)) (F0 m 106 ls []) := by
              intro n
              induction n with
              | zero =>
                intro v23 M24 H locs ls hk
                rw [f_X7_read_L106] at hk
                exact nomatch (show none = some _ from hk)
              | succ n ih =>
                intro v23 M24 H locs ls hk hP hS hl
                rw [f_X7_read_L106] at hk
                refine lv_iload hx hb dX7_read_106 (lv_at hl 0 rfl) ?_
                refine lv_iconst (v := (1 : Int32)) hx hb dX7_read_108 (by decide) ?_
                refine lv_iadd hx hb dX7_read_109 ?_
                refine lv_iconst (v := (3 : Int32)) hx hb dX7_read_110 (by decide) ?_
                refine lv_icmp_ge (tgt := 140) hx hb dX7_read_111 (by decide) (fun cz36 => ?_) (fun cz36 => ?_)
                · have hk := it_t cz36 hk
                  exact ex21 M24 _ _ _ hk hP hS (lv_sub hl [1, 2, 3, 4] rfl)
                · have hk := it_f cz36 hk
                  refine lv_aload_n hx hb dX7_read_114 rfl (lv_at hl 2 rfl) ?_
                  refine gf_RX7_119 hx hb hts hown hK hP (by decide) dX7_read_115 ?_
                  refine lv_iload_n hx hb dX7_read_118 rfl (lv_at hl 1 rfl) ?_
                  refine lv_iload hx hb dX7_read_119 (lv_at hl 0 rfl) ?_
                  refine lv_iadd hx hb dX7_read_121 ?_
                  refine lv_aload_n hx hb dX7_read_122 rfl (lv_at hl 2 rfl) ?_
                  refine gf_RX7_119 hx hb hts hown hK hP (by decide) dX7_read_123 ?_
                  refine lv_iload_n hx hb dX7_read_126 rfl (lv_at hl 1 rfl) ?_
                  refine lv_iload hx hb dX7_read_127 (lv_at hl 0 rfl) ?_
                  refine lv_iadd hx hb dX7_read_129 ?_
                  refine lv_iconst (v := (1 : Int32)) hx hb dX7_read_130 (by decide) ?_
                  refine lv_iadd hx hb dX7_read_131 ?_
                  obtain ⟨hg37, hk⟩ := gd_s hk
                  refine wa_iaload_52 hx hb hK hP (by decide) hg37 dX7_read_132 ?_
                  obtain ⟨hg38, hk⟩ := gd_s hk
                  obtain ⟨M39, eM39, hk⟩ := lq_s hk
                  refine wa_iastore_52 hx hb hZ hK hP hS (by decide) hg38 dX7_read_133 (fun H locs hP hS => ?_)
                  rw [← eM39] at hP
                  refine lv_iinc (v := (v23 + (1 : Int32))) (lv' := [(6, .int (v23 + (1 : Int32))), (3, .int v12), (0, .ref (Z.2.2 26 0)), (1, .int p0), (2, .int p1)]) hx hb dX7_read_134 hl (k := 0) rfl rfl (by decide) rfl (fun ls hl => ?_)
                  refine lv_goto (tgt := 106) hx hb dX7_read_137 (by decide) ?_
                  exact ih (v23 + (1 : Int32)) M39 _ _ _ hk hP hS (lv_sub hl [0, 1, 2, 3, 4] rfl)
            exact lp21 1000 v18 M _ _ _ hk hP hS (lv_sub hl [0, 2, 3, 4, 5] rfl)
          have lp17 : ∀ (n : Nat) (v19 : Int32) (v20 : Int32) (H : Heap) (locs : List Loc) (ls : Array Slot), f_X7_read_L65 v13 v12 M p1 n v19 v20 k17 = some (Mz, r) → wP Z (X, M, O) H → va_S (wA Z s.heap.size) s.heap H locs → lv_has ls 7 [(6, .int v19), (5, .int v20), (4, .int v13), (3, .int v12), (0, .ref (Z.2.2 26 0)), (1, .int p0), (2, .int p1)] → W p l e (headSpec ws_X7_read rm_X7_read).room s m args below meth c H locs 0 0 (vx_MQ below (cQi Z (X, Mz, O) (.inl r) s.heap.size) (cX Z (X, Mz, O) (.inl r : Int32 ⊕ String) s.heap.size) args s 0 0 (wA Z s.heap.size)) (F0 m 65 ls []) := by
            intro n
            induction n with
            | zero =>
              intro v19 v20 H locs ls hk
              rw [f_X7_read_L65] at hk
              exact nomatch (show none = some _ from hk)
            | succ n ih =>
              intro v19 v20 H locs ls hk hP hS hl
              rw [f_X7_read_L65] at hk
              refine lv_iload hx hb dX7_read_65 (lv_at hl 0 rfl) ?_
              refine lv_iload hx hb dX7_read_67 (lv_at hl 2 rfl) ?_
              refine lv_icmp_ge (tgt := 102) hx hb dX7_read_69 (by decide) (fun cz40 => ?_) (fun cz40 => ?_)
              · have hk := it_t cz40 hk
                exact ex17 v20 _ _ _ hk hP hS (lv_sub hl [1, 3, 4, 5, 6] rfl)
              · have hk := it_f cz40 hk
                refine lv_aload_n hx hb dX7_read_72 rfl (lv_at hl 4 rfl) ?_
                refine gf_RX7_119 hx hb hts hown hK hP (by decide) dX7_read_73 ?_
                refine lv_iload_n hx hb dX7_read_76 rfl (lv_at hl 3 rfl) ?_
                refine lv_iload hx hb dX7_read_77 (lv_at hl 0 rfl) ?_
                refine lv_iadd hx hb dX7_read_79 ?_
                obtain ⟨hg41, hk⟩ := gd_s hk
                refine wa_iaload_52 hx hb hK hP (by decide) hg41 dX7_read_80 ?_
                refine lv_iload_n hx hb dX7_read_81 rfl (lv_at hl 6 rfl) ?_
                refine lv_iconst (v := (1 : Int32)) hx hb dX7_read_82 (by decide) ?_
                refine lv_iadd hx hb dX7_read_83 ?_
                refine lv_icmp_ne (tgt := 92) hx hb dX7_read_84 (by decide) (fun cz42 => ?_) (fun cz42 => ?_)
                · have hk := it_f cz42 hk
                  refine lv_iload hx hb dX7_read_92 (lv_at hl 1 rfl) ?_
                  refine lv_istore (lv' := [(5, .int v20), (6, .int v19), (4, .int v13), (3, .int v12), (0, .ref (Z.2.2 26 0)), (1, .int p0), (2, .int p1)]) hx hb dX7_read_94 hl (by decide) rfl (fun ls hl => ?_)
                  refine lv_iinc (v := (v19 + (1 : Int32))) (lv' := [(6, .int (v19 + (1 : Int32))), (5, .int v20), (4, .int v13), (3, .int v12), (0, .ref (Z.2.2 26 0)), (1, .int p0), (2, .int p1)]) hx hb dX7_read_96 hl (k := 1) rfl rfl (by decide) rfl (fun ls hl => ?_)
                  refine lv_goto (tgt := 65) hx hb dX7_read_99 (by decide) ?_
                  exact ih (v19 + (1 : Int32)) v20 _ _ _ hk hP hS (lv_sub hl [0, 1, 2, 3, 4, 5, 6] rfl)
                · have hk := it_t cz42 hk
                  refine lv_iload hx hb dX7_read_87 (lv_at hl 0 rfl) ?_
                  refine lv_goto (tgt := 94) hx hb dX7_read_89 (by decide) ?_
                  refine lv_istore (lv' := [(5, .int v19), (6, .int v19), (4, .int v13), (3, .int v12), (0, .ref (Z.2.2 26 0)), (1, .int p0), (2, .int p1)]) hx hb dX7_read_94 hl (by decide) rfl (fun ls hl => ?_)
                  refine lv_iinc (v := (v19 + (1 : Int32))) (lv' := [(6, .int (v19 + (1 : Int32))), (5, .int v19), (4, .int v13), (3, .int v12), (0, .ref (Z.2.2 26 0)), (1, .int p0), (2, .int p1)]) hx hb dX7_read_96 hl (k := 1) rfl rfl (by decide) rfl (fun ls hl => ?_)
                  refine lv_goto (tgt := 65) hx hb dX7_read_99 (by decide) ?_
                  exact ih (v19 + (1 : Int32)) v19 _ _ _ hk hP hS (lv_sub hl [0, 1, 2, 3, 4, 5, 6] rfl)
          exact lp17 1000 (0 : Int32) v15 _ _ _ hk hP hS (lv_sub hl [0, 1, 2, 3, 4, 5, 6] rfl)
        refine lv_icmp_ne (tgt := 58) hx hb dX7_read_51 (by decide) (fun cz43 => ?_) (fun cz43 => ?_)
        · have hk := it_f cz43 hk
          refine lv_iload hx hb dX7_read_58 (lv_at hl 0 rfl) ?_
          exact jn16 v13 _ _ _ hk hP hS (lv_sub hl [0, 1, 2, 3, 4] rfl)
        · have hk := it_t cz43 hk
          refine lv_iconst (v := (0 : Int32)) hx hb dX7_read_54 (by decide) ?_
          refine lv_goto (tgt := 60) hx hb dX7_read_55 (by decide) ?_
          exact jn16 (0 : Int32) _ _ _ hk hP hS (lv_sub hl [0, 1, 2, 3, 4] rfl)
      · have hk := it_t cz11 hk
        refine lv_aload_n hx hb dX7_read_31 rfl (lv_at hl 0 rfl) ?_
        refine lv_iconst (v := (2 : Int32)) hx hb dX7_read_32 (by decide) ?_
        obtain ⟨M45, v44, hf46, hk⟩ := b1_s hk
        refine wc_iV0 (rest := []) (As := [.int (2 : Int32)]) ⟨hx, hb, hml, hown, hts⟩ (fun sz => k_X7_fails l hfl Z hZ X M O (2 : Int32) M45 v44 hf46 sz) (cw_RX7_165 (args := args) (s := s) hts (Nat.le_of_ble_eq_true rfl) (Nat.le_of_ble_eq_true rfl)) hE hP hK hS (rv_26 hK hP (by decide)) rfl hl.1 rfl (Nat.le_of_ble_eq_true rfl) dX7_read_33 ⟨Nat.le_of_ble_eq_true rfl, Nat.le_of_ble_eq_true rfl⟩ (fun H locs hP hS => ?_)
        cases (show some _ = some _ from hk)
        exact we_i hx hb hr hlocks hP rfl hS dX7_read_36 (by decide) (by decide)
    · have hk := it_t cz9 hk
      refine lv_aload_n hx hb dX7_read_16 rfl (lv_at hl 0 rfl) ?_
      refine lv_iconst (v := (1 : Int32)) hx hb dX7_read_17 (by decide) ?_
      obtain ⟨M48, v47, hf49, hk⟩ := b1_s hk
      refine wc_iV0 (rest := []) (As := [.int (1 : Int32)]) ⟨hx, hb, hml, hown, hts⟩ (fun sz => k_X7_fails l hfl Z hZ X M O (1 : Int32) M48 v47 hf49 sz) (cw_RX7_165 (args := args) (s := s) hts (Nat.le_of_ble_eq_true rfl) (Nat.le_of_ble_eq_true rfl)) hE hP hK hS (rv_26 hK hP (by decide)) rfl hl.1 rfl (Nat.le_of_ble_eq_true rfl) dX7_read_18 ⟨Nat.le_of_ble_eq_true rfl, Nat.le_of_ble_eq_true rfl⟩ (fun H locs hP hS => ?_)
      cases (show some _ = some _ from hk)
      exact we_i hx hb hr hlocks hP rfl hS dX7_read_21 (by decide) (by decide)
set_option maxHeartbeats 4000000 in
set_option maxRecDepth 100000 in
theorem k_X7_copy (l : Launch) (hfl : l.stackTraces = false) (Z : ZT) (hZ : wD Z) (X M O : SS) (p0 : Int32) (p1 : Int32) (Mz : SS) (r : Int32) (hf : f_X7_copy M p0 p1 = some (Mz, r)) (sz : Nat) : vx_Met l yX7_copy ws_X7_copy rm_X7_copy (va_Pc [.ref (Z.2.2 26 0), .int p0, .int p1] (cP Z (X, M, O) sz)) (cQi Z (X, Mz, O) (.inl r) sz) (cX Z (X, Mz, O) (.inl r : Int32 ⊕ String) sz) 0 0 (wA Z sz) := by
  refine vx_ofW (cc := cX7_copy) (maxL := 3) (ret := (some .int)) (by decide) rfl ?_
  intro p e s m args below meth c s₁ B hml htab hv
  obtain ⟨hargs, hsz, hE, hP, hK⟩ := hv
  have hx := B.exec
  have hb := B.bytes
  have hr := B.returns
  have hts0 := atoms_spec (ws := ws_X7_copy) B.pre
  have hts : ∀ w ∈ lw_all, w.before args s = true := fun w h => hts0 w (List.mem_cons_of_mem _ h)
  have hown : s.vm.findClass RX7 = some m.cls := findClass_of_methodNamed B.named
  have hlocks := B.notSynchronized
  have hout9 : ∀ (pc9 : Nat), ∀ x ∈ c.exceptionTable.toList, covers x pc9 = false := fun _ x hx9 => (htab x hx9).elim
  subst hsz
  have hS : va_S (wA Z s.heap.size) s.heap s.heap [] := va_S.rf
  have hl := lv_entry ([.ref (Z.2.2 26 0), .int p0, .int p1]) (n := 3) (Nat.le_of_ble_eq_true rfl)
  have hen : entryFrame m args 3 = entryFrame m ([.ref (Z.2.2 26 0), .int p0, .int p1] : List Value).toArray 3 := by rw [hargs]
  rw [hen, lg_entry_eq]
  generalize (lg_sl ([.ref (Z.2.2 26 0), .int p0, .int p1]) ++ List.replicate (3 - (lg_sl ([.ref (Z.2.2 26 0), .int p0, .int p1])).length) Slot.unset).toArray = ls at hl ⊢
  have hl : lv_has ls 3 [(0, .ref (Z.2.2 26 0)), (1, .int p0), (2, .int p1)] := hl
  have hk := hf
  unfold f_X7_copy at hk
  refine lv_aload_n hx hb dX7_copy_0 rfl (lv_at hl 0 rfl) ?_
  refine lv_iload_n hx hb dX7_copy_1 rfl (lv_at hl 1 rfl) ?_
  obtain ⟨v1, hf2, hk⟩ := b0_s hk
  refine wc_iV0 (rest := []) (As := [.int p0]) ⟨hx, hb, hml, hown, hts⟩ (fun sz => k_X7_isMember l hfl Z hZ X M O p0 v1 hf2 sz) (cw_RX7_214 (args := args) (s := s) hts (Nat.le_of_ble_eq_true rfl) (Nat.le_of_ble_eq_true rfl)) hE hP hK hS (rv_26 hK hP (by decide)) rfl hl.1 rfl (Nat.le_of_ble_eq_true rfl) dX7_copy_2 ⟨Nat.le_of_ble_eq_true rfl, Nat.le_of_ble_eq_true rfl⟩ (fun H locs hP hS => ?_)
  refine lv_if_ne (tgt := 14) hx hb dX7_copy_5 (by decide) (fun cz3 => ?_) (fun cz3 => ?_)
  · have hk := it_f cz3 hk
    refine lv_iload_n hx hb dX7_copy_14 rfl (lv_at hl 2 rfl) ?_
    refine lv_iconst (v := (0 : Int32)) hx hb dX7_copy_15 (by decide) ?_
    refine lv_aload_n hx hb dX7_copy_16 rfl (lv_at hl 0 rfl) ?_
    refine lv_iload_n hx hb dX7_copy_17 rfl (lv_at hl 1 rfl) ?_
    obtain ⟨v4, hf5, hk⟩ := b0_s hk
    refine wc_iV0 (rest := [.int (0 : Int32), .int p1]) (As := [.int p0]) ⟨hx, hb, hml, hown, hts⟩ (fun sz => k_X7_copyCount l hfl Z hZ X M O p0 v4 hf5 sz) (cw_RX7_253 (args := args) (s := s) hts (Nat.le_of_ble_eq_true rfl) (Nat.le_of_ble_eq_true rfl)) hE hP hK hS (rv_26 hK hP (by decide)) rfl hl.1 rfl (Nat.le_of_ble_eq_true rfl) dX7_copy_18 ⟨Nat.le_of_ble_eq_true rfl, Nat.le_of_ble_eq_true rfl⟩ (fun H locs hP hS => ?_)
    refine lv_iconst (v := (1 : Int32)) hx hb dX7_copy_21 (by decide) ?_
    refine lv_isub hx hb dX7_copy_22 ?_
    obtain ⟨v6, hf7, hk⟩ := b0_s hk
    refine wc_iS0 (rest := []) (As := [.int p1, .int (0 : Int32), .int (v4 - (1 : Int32))]) ⟨hx, hb, hml, hown, hts⟩ (fun sz => k_X7_in l hfl Z hZ X M O p1 (0 : Int32) (v4 - (1 : Int32)) v6 hf7 sz) (cw_RX7_161 (args := args) (s := s) hts (Nat.le_of_ble_eq_true rfl) (Nat.le_of_ble_eq_true rfl)) hE hP hK hS  rfl hl.1 rfl (Nat.le_of_ble_eq_true rfl) dX7_copy_23 ⟨Nat.le_of_ble_eq_true rfl, Nat.le_of_ble_eq_true rfl⟩ (fun H locs hP hS => ?_)
    refine lv_if_eq (tgt := 48) hx hb dX7_copy_26 (by decide) (fun cz8 => ?_) (fun cz8 => ?_)
    · have hk := it_t cz8 hk
      refine lv_aload_n hx hb dX7_copy_48 rfl (lv_at hl 0 rfl) ?_
      refine lv_iconst (v := (2 : Int32)) hx hb dX7_copy_49 (by decide) ?_
      obtain ⟨M10, v9, hf11, hk⟩ := b1_s hk
      refine wc_iV0 (rest := []) (As := [.int (2 : Int32)]) ⟨hx, hb, hml, hown, hts⟩ (fun sz => k_X7_fails l hfl Z hZ X M O (2 : Int32) M10 v9 hf11 sz) (cw_RX7_165 (args := args) (s := s) hts (Nat.le_of_ble_eq_true rfl) (Nat.le_of_ble_eq_true rfl)) hE hP hK hS (rv_26 hK hP (by decide)) rfl hl.1 rfl (Nat.le_of_ble_eq_true rfl) dX7_copy_50 ⟨Nat.le_of_ble_eq_true rfl, Nat.le_of_ble_eq_true rfl⟩ (fun H locs hP hS => ?_)
      cases (show some _ = some _ from hk)
      exact we_i hx hb hr hlocks hP rfl hS dX7_copy_53 (by decide) (by decide)
    · have hk := it_f cz8 hk
      refine lv_aload_n hx hb dX7_copy_29 rfl (lv_at hl 0 rfl) ?_
      refine lv_aload_n hx hb dX7_copy_30 rfl (lv_at hl 0 rfl) ?_
      refine gf_RX7_119 hx hb hts hown hK hP (by decide) dX7_copy_31 ?_
      refine lv_iconst (v := (3 : Int32)) hx hb dX7_copy_34 (by decide) ?_
      refine lv_iload_n hx hb dX7_copy_35 rfl (lv_at hl 1 rfl) ?_
      refine lv_imul hx hb dX7_copy_36 ?_
      refine lv_iload_n hx hb dX7_copy_37 rfl (lv_at hl 2 rfl) ?_
      refine lv_iadd hx hb dX7_copy_38 ?_
      obtain ⟨hg12, hk⟩ := gd_s hk
      refine wa_iaload_52 hx hb hK hP (by decide) hg12 dX7_copy_39 ?_
      refine lv_iconst (v := (1 : Int32)) hx hb dX7_copy_40 (by decide) ?_
      refine lv_isub hx hb dX7_copy_41 ?_
      obtain ⟨M14, v13, hf15, hk⟩ := b1_s hk
      refine wc_iV0 (rest := []) (As := [.int ((M.1 52 0 ((((3 : Int32) * p0) + p1)).toNatClampNeg) - (1 : Int32))]) ⟨hx, hb, hml, hown, hts⟩ (fun sz => k_X7_tells l hfl Z hZ X M O ((M.1 52 0 ((((3 : Int32) * p0) + p1)).toNatClampNeg) - (1 : Int32)) M14 v13 hf15 sz) (cw_RX7_169 (args := args) (s := s) hts (Nat.le_of_ble_eq_true rfl) (Nat.le_of_ble_eq_true rfl)) hE hP hK hS (rv_26 hK hP (by decide)) rfl hl.1 rfl (Nat.le_of_ble_eq_true rfl) dX7_copy_42 ⟨Nat.le_of_ble_eq_true rfl, Nat.le_of_ble_eq_true rfl⟩ (fun H locs hP hS => ?_)
      refine lv_goto (tgt := 53) hx hb dX7_copy_45 (by decide) ?_
      cases (show some _ = some _ from hk)
      exact we_i hx hb hr hlocks hP rfl hS dX7_copy_53 (by decide) (by decide)
  · have hk := it_t cz3 hk
    refine lv_aload_n hx hb dX7_copy_8 rfl (lv_at hl 0 rfl) ?_
    refine lv_iconst (v := (1 : Int32)) hx hb dX7_copy_9 (by decide) ?_
    obtain ⟨M17, v16, hf18, hk⟩ := b1_s hk
    refine wc_iV0 (rest := []) (As := [.int (1 : Int32)]) ⟨hx, hb, hml, hown, hts⟩ (fun sz => k_X7_fails l hfl Z hZ X M O (1 : Int32) M17 v16 hf18 sz) (cw_RX7_165 (args := args) (s := s) hts (Nat.le_of_ble_eq_true rfl) (Nat.le_of_ble_eq_true rfl)) hE hP hK hS (rv_26 hK hP (by decide)) rfl hl.1 rfl (Nat.le_of_ble_eq_true rfl) dX7_copy_10 ⟨Nat.le_of_ble_eq_true rfl, Nat.le_of_ble_eq_true rfl⟩ (fun H locs hP hS => ?_)
    cases (show some _ = some _ from hk)
    exact we_i hx hb hr hlocks hP rfl hS dX7_copy_13 (by decide) (by decide)
set_option maxHeartbeats 4000000 in
set_option maxRecDepth 100000 in
theorem k_X7_counts (l : Launch) (hfl : l.stackTraces = false) (Z : ZT) (hZ : wD Z) (X M O : SS) (p0 : Int32) (r : Int32) (hf : f_X7_counts M p0 = some (r)) (sz : Nat) : vx_Met l yX7_counts ws_X7_counts rm_X7_counts (va_Pc [.ref (Z.2.2 26 0), .int p0] (cP Z (X, M, O) sz)) (cQi Z (X, M, O) (.inl r) sz) (cX Z (X, M, O) (.inl r : Int32 ⊕ String) sz) 0 0 (wA Z sz) := by
  refine vx_ofW (cc := cX7_counts) (maxL := 2) (ret := (some .boolean)) (by decide) rfl ?_
  intro p e s m args below meth c s₁ B hml htab hv
  obtain ⟨hargs, hsz, hE, hP, hK⟩ := hv
  have hx := B.exec
  have hb := B.bytes
  have hr := B.returns
  have hts0 := atoms_spec (ws := ws_X7_counts) B.pre
  have hts : ∀ w ∈ lw_all, w.before args s = true := fun w h => hts0 w (List.mem_cons_of_mem _ h)
  have hown : s.vm.findClass RX7 = some m.cls := findClass_of_methodNamed B.named
  have hlocks := B.notSynchronized
  have hout9 : ∀ (pc9 : Nat), ∀ x ∈ c.exceptionTable.toList, covers x pc9 = false := fun _ x hx9 => (htab x hx9).elim
  subst hsz
  have hS : va_S (wA Z s.heap.size) s.heap s.heap [] := va_S.rf
  have hl := lv_entry ([.ref (Z.2.2 26 0), .int p0]) (n := 2) (Nat.le_of_ble_eq_true rfl)
  have hen : entryFrame m args 2 = entryFrame m ([.ref (Z.2.2 26 0), .int p0] : List Value).toArray 2 := by rw [hargs]
  rw [hen, lg_entry_eq]
  generalize (lg_sl ([.ref (Z.2.2 26 0), .int p0]) ++ List.replicate (2 - (lg_sl ([.ref (Z.2.2 26 0), .int p0])).length) Slot.unset).toArray = ls at hl ⊢
  have hl : lv_has ls 2 [(0, .ref (Z.2.2 26 0)), (1, .int p0)] := hl
  have hk := hf
  unfold f_X7_counts at hk
  refine lv_aload_n hx hb dX7_counts_0 rfl (lv_at hl 0 rfl) ?_
  refine gf_RX7_88 hx hb hts hown hK hP (by decide) dX7_counts_1 ?_
  refine lv_iload_n hx hb dX7_counts_4 rfl (lv_at hl 1 rfl) ?_
  obtain ⟨hg1, hk⟩ := gd_s hk
  refine wa_caload_42 hx hb hK hP (by decide) hg1 dX7_counts_5 ?_
  refine lv_bipush (v := (115 : Int32)) hx hb dX7_counts_6 (by decide) ?_
  refine lv_icmp_eq (tgt := 33) hx hb dX7_counts_8 (by decide) (fun cz2 => ?_) (fun cz2 => ?_)
  · have hk := it_t cz2 hk
    refine lv_iconst (v := (1 : Int32)) hx hb dX7_counts_33 (by decide) ?_
    refine lv_goto (tgt := 38) hx hb dX7_counts_34 (by decide) ?_
    cases (show some _ = some _ from hk)
    exact we_z hx hb hr hlocks (show okz (1 : Int32) by unfold okz; decide).1 hP rfl hS dX7_counts_38 (by decide) (by decide)
  · have hk := it_f cz2 hk
    refine lv_aload_n hx hb dX7_counts_11 rfl (lv_at hl 0 rfl) ?_
    refine gf_RX7_88 hx hb hts hown hK hP (by decide) dX7_counts_12 ?_
    refine lv_iload_n hx hb dX7_counts_15 rfl (lv_at hl 1 rfl) ?_
    obtain ⟨hg3, hk⟩ := gd_s hk
    refine wa_caload_42 hx hb hK hP (by decide) hg3 dX7_counts_16 ?_
    refine lv_bipush (v := (112 : Int32)) hx hb dX7_counts_17 (by decide) ?_
    refine lv_icmp_eq (tgt := 33) hx hb dX7_counts_19 (by decide) (fun cz4 => ?_) (fun cz4 => ?_)
    · have hk := it_t cz4 hk
      refine lv_iconst (v := (1 : Int32)) hx hb dX7_counts_33 (by decide) ?_
      refine lv_goto (tgt := 38) hx hb dX7_counts_34 (by decide) ?_
      cases (show some _ = some _ from hk)
      exact we_z hx hb hr hlocks (show okz (1 : Int32) by unfold okz; decide).1 hP rfl hS dX7_counts_38 (by decide) (by decide)
    · have hk := it_f cz4 hk
      refine lv_aload_n hx hb dX7_counts_22 rfl (lv_at hl 0 rfl) ?_
      refine gf_RX7_88 hx hb hts hown hK hP (by decide) dX7_counts_23 ?_
      refine lv_iload_n hx hb dX7_counts_26 rfl (lv_at hl 1 rfl) ?_
      obtain ⟨hg5, hk⟩ := gd_s hk
      refine wa_caload_42 hx hb hK hP (by decide) hg5 dX7_counts_27 ?_
      refine lv_bipush (v := (99 : Int32)) hx hb dX7_counts_28 (by decide) ?_
      refine lv_icmp_ne (tgt := 37) hx hb dX7_counts_30 (by decide) (fun cz6 => ?_) (fun cz6 => ?_)
      · have hk := it_f cz6 hk
        refine lv_iconst (v := (0 : Int32)) hx hb dX7_counts_37 (by decide) ?_
        cases (show some _ = some _ from hk)
        exact we_z hx hb hr hlocks (show okz (0 : Int32) by unfold okz; decide).1 hP rfl hS dX7_counts_38 (by decide) (by decide)
      · have hk := it_t cz6 hk
        refine lv_iconst (v := (1 : Int32)) hx hb dX7_counts_33 (by decide) ?_
        refine lv_goto (tgt := 38) hx hb dX7_counts_34 (by decide) ?_
        cases (show some _ = some _ from hk)
        exact we_z hx hb hr hlocks (show okz (1 : Int32) by unfold okz; decide).1 hP rfl hS dX7_counts_38 (by decide) (by decide)
set_option maxHeartbeats 4000000 in
set_option maxRecDepth 100000 in
theorem k_X7_isGreater (l : Launch) (hfl : l.stackTraces = false) (Z : ZT) (hZ : wD Z) (X M O : SS) (p0 : Int32) (p1 : Int32) (r : Int32) (hf : f_X7_isGreater M p0 p1 = some (r)) (sz : Nat) : vx_Met l yX7_isGreater ws_X7_isGreater rm_X7_isGreater (va_Pc [.ref (Z.2.2 26 0), .int p0, .int p1] (cP Z (X, M, O) sz)) (cQi Z (X, M, O) (.inl r) sz) (cX Z (X, M, O) (.inl r : Int32 ⊕ String) sz) 0 0 (wA Z sz) := by
  refine vx_ofW (cc := cX7_isGreater) (maxL := 7) (ret := (some .boolean)) (by decide) rfl ?_
  intro p e s m args below meth c s₁ B hml htab hv
  obtain ⟨hargs, hsz, hE, hP, hK⟩ := hv
  have hx := B.exec
  have hb := B.bytes
  have hr := B.returns
  have hts0 := atoms_spec (ws := ws_X7_isGreater) B.pre
  have hts : ∀ w ∈ lw_all, w.before args s = true := fun w h => hts0 w (List.mem_cons_of_mem _ h)
  have hown : s.vm.findClass RX7 = some m.cls := findClass_of_methodNamed B.named
  have hlocks := B.notSynchronized
  have hout9 : ∀ (pc9 : Nat), ∀ x ∈ c.exceptionTable.toList, covers x pc9 = false := fun _ x hx9 => (htab x hx9).elim
  subst hsz
  have hS : va_S (wA Z s.heap.size) s.heap s.heap [] := va_S.rf
  have hl := lv_entry ([.ref (Z.2.2 26 0), .int p0, .int p1]) (n := 7) (Nat.le_of_ble_eq_true rfl)
  have hen : entryFrame m args 7 = entryFrame m ([.ref (Z.2.2 26 0), .int p0, .int p1] : List Value).toArray 7 := by rw [hargs]
  rw [hen, lg_entry_eq]
  generalize (lg_sl ([.ref (Z.2.2 26 0), .int p0, .int p1]) ++ List.replicate (7 - (lg_sl ([.ref (Z.2.2 26 0), .int p0, .int p1])).length) Slot.unset).toArray = ls at hl ⊢
  have hl : lv_has ls 7 [(0, .ref (Z.2.2 26 0)), (1, .int p0), (2, .int p1)] := hl
  have hk := hf
  unfold f_X7_isGreater at hk
  refine lv_aload_n hx hb dX7_isGreater_0 rfl (lv_at hl 0 rfl) ?_
  refine lv_iload_n hx hb dX7_isGreater_1 rfl (lv_at hl 1 rfl) ?_
  obtain ⟨v1, hf2, hk⟩ := b0_s hk
  refine wc_iV0 (rest := []) (As := [.int p0]) ⟨hx, hb, hml, hown, hts⟩ (fun sz => k_X7_weightOf l hfl Z hZ X M O p0 v1 hf2 sz) (cw_RX7_233 (args := args) (s := s) hts (Nat.le_of_ble_eq_true rfl) (Nat.le_of_ble_eq_true rfl)) hE hP hK hS (rv_26 hK hP (by decide)) rfl hl.1 rfl (Nat.le_of_ble_eq_true rfl) dX7_isGreater_2 ⟨Nat.le_of_ble_eq_true rfl, Nat.le_of_ble_eq_true rfl⟩ (fun H locs hP hS => ?_)
  have jn4 : ∀ (v3 : Int32) (H : Heap) (locs : List Loc) (ls : Array Slot), f_X7_isGreater_J17 M p1 p0 v3 = some (r) → wP Z (X, M, O) H → va_S (wA Z s.heap.size) s.heap H locs → lv_has ls 7 [(0, .ref (Z.2.2 26 0)), (1, .int p0), (2, .int p1)] → W p l e (headSpec ws_X7_isGreater rm_X7_isGreater).room s m args below meth c H locs 0 0 (vx_MQ below (cQi Z (X, M, O) (.inl r) s.heap.size) (cX Z (X, M, O) (.inl r : Int32 ⊕ String) s.heap.size) args s 0 0 (wA Z s.heap.size)) (F0 m 17 ls [.int v3]) := by
    intro v3 H locs ls hk hP hS hl
    unfold f_X7_isGreater_J17 at hk
    refine lv_istore_n (lv' := [(3, .int v3), (0, .ref (Z.2.2 26 0)), (1, .int p0), (2, .int p1)]) hx hb dX7_isGreater_17 rfl hl (by decide) rfl (fun ls hl => ?_)
    refine lv_aload_n hx hb dX7_isGreater_18 rfl (lv_at hl 1 rfl) ?_
    refine lv_iload_n hx hb dX7_isGreater_19 rfl (lv_at hl 3 rfl) ?_
    obtain ⟨v5, hf6, hk⟩ := b0_s hk
    refine wc_iV0 (rest := []) (As := [.int p1]) ⟨hx, hb, hml, hown, hts⟩ (fun sz => k_X7_weightOf l hfl Z hZ X M O p1 v5 hf6 sz) (cw_RX7_233 (args := args) (s := s) hts (Nat.le_of_ble_eq_true rfl) (Nat.le_of_ble_eq_true rfl)) hE hP hK hS (rv_26 hK hP (by decide)) rfl hl.1 rfl (Nat.le_of_ble_eq_true rfl) dX7_isGreater_20 ⟨Nat.le_of_ble_eq_true rfl, Nat.le_of_ble_eq_true rfl⟩ (fun H locs hP hS => ?_)
    have jn8 : ∀ (v7 : Int32) (H : Heap) (locs : List Loc) (ls : Array Slot), f_X7_isGreater_J35 M p0 p1 v3 v7 = some (r) → wP Z (X, M, O) H → va_S (wA Z s.heap.size) s.heap H locs → lv_has ls 7 [(3, .int v3), (0, .ref (Z.2.2 26 0)), (1, .int p0), (2, .int p1)] → W p l e (headSpec ws_X7_isGreater rm_X7_isGreater).room s m args below meth c H locs 0 0 (vx_MQ below (cQi Z (X, M, O) (.inl r) s.heap.size) (cX Z (X, M, O) (.inl r : Int32 ⊕ String) s.heap.size) args s 0 0 (wA Z s.heap.size)) (F0 m 35 ls [.int v7]) := by
      intro v7 H locs ls hk hP hS hl
      unfold f_X7_isGreater_J35 at hk
      refine lv_istore (lv' := [(4, .int v7), (3, .int v3), (0, .ref (Z.2.2 26 0)), (1, .int p0), (2, .int p1)]) hx hb dX7_isGreater_35 hl (by decide) rfl (fun ls hl => ?_)
      refine lv_aload_n hx hb dX7_isGreater_37 rfl (lv_at hl 2 rfl) ?_
      refine lv_iload_n hx hb dX7_isGreater_38 rfl (lv_at hl 3 rfl) ?_
      obtain ⟨v9, hf10, hk⟩ := b0_s hk
      refine wc_iV0 (rest := []) (As := [.int p0]) ⟨hx, hb, hml, hown, hts⟩ (fun sz => k_X7_weightOf l hfl Z hZ X M O p0 v9 hf10 sz) (cw_RX7_233 (args := args) (s := s) hts (Nat.le_of_ble_eq_true rfl) (Nat.le_of_ble_eq_true rfl)) hE hP hK hS (rv_26 hK hP (by decide)) rfl hl.1 rfl (Nat.le_of_ble_eq_true rfl) dX7_isGreater_39 ⟨Nat.le_of_ble_eq_true rfl, Nat.le_of_ble_eq_true rfl⟩ (fun H locs hP hS => ?_)
      have jn12 : ∀ (v11 : Int32) (H : Heap) (locs : List Loc) (ls : Array Slot), f_X7_isGreater_J54 M p1 v7 v3 v11 = some (r) → wP Z (X, M, O) H → va_S (wA Z s.heap.size) s.heap H locs → lv_has ls 7 [(4, .int v7), (3, .int v3), (0, .ref (Z.2.2 26 0)), (2, .int p1)] → W p l e (headSpec ws_X7_isGreater rm_X7_isGreater).room s m args below meth c H locs 0 0 (vx_MQ below (cQi Z (X, M, O) (.inl r) s.heap.size) (cX Z (X, M, O) (.inl r : Int32 ⊕ String) s.heap.size) args s 0 0 (wA Z s.heap.size)) (F0 m 54 ls [.int v11]) := by
        intro v11 H locs ls hk hP hS hl
        unfold f_X7_isGreater_J54 at hk
        refine lv_istore (lv' := [(5, .int v11), (4, .int v7), (3, .int v3), (0, .ref (Z.2.2 26 0)), (2, .int p1)]) hx hb dX7_isGreater_54 hl (by decide) rfl (fun ls hl => ?_)
        refine lv_aload_n hx hb dX7_isGreater_56 rfl (lv_at hl 3 rfl) ?_
        refine lv_iload_n hx hb dX7_isGreater_57 rfl (lv_at hl 4 rfl) ?_
        obtain ⟨v13, hf14, hk⟩ := b0_s hk
        refine wc_iV0 (rest := []) (As := [.int p1]) ⟨hx, hb, hml, hown, hts⟩ (fun sz => k_X7_weightOf l hfl Z hZ X M O p1 v13 hf14 sz) (cw_RX7_233 (args := args) (s := s) hts (Nat.le_of_ble_eq_true rfl) (Nat.le_of_ble_eq_true rfl)) hE hP hK hS (rv_26 hK hP (by decide)) rfl hl.1 rfl (Nat.le_of_ble_eq_true rfl) dX7_isGreater_58 ⟨Nat.le_of_ble_eq_true rfl, Nat.le_of_ble_eq_true rfl⟩ (fun H locs hP hS => ?_)
        have jn16 : ∀ (v15 : Int32) (H : Heap) (locs : List Loc) (ls : Array Slot), f_X7_isGreater_J73 v11 v7 v3 v15 = some (r) → wP Z (X, M, O) H → va_S (wA Z s.heap.size) s.heap H locs → lv_has ls 7 [(5, .int v11), (4, .int v7), (3, .int v3)] → W p l e (headSpec ws_X7_isGreater rm_X7_isGreater).room s m args below meth c H locs 0 0 (vx_MQ below (cQi Z (X, M, O) (.inl r) s.heap.size) (cX Z (X, M, O) (.inl r : Int32 ⊕ String) s.heap.size) args s 0 0 (wA Z s.heap.size)) (F0 m 73 ls [.int v15]) := by
          intro v15 H locs ls hk hP hS hl
          unfold f_X7_isGreater_J73 at hk
          refine lv_istore (lv' := [(6, .int v15), (5, .int v11), (4, .int v7), (3, .int v3)]) hx hb dX7_isGreater_73 hl (by decide) rfl (fun ls hl => ?_)
          refine lv_iload hx hb dX7_isGreater_75 (lv_at hl 1 rfl) ?_
          refine lv_iload hx hb dX7_isGreater_77 (lv_at hl 2 rfl) ?_
          refine lv_imul hx hb dX7_isGreater_79 ?_
          refine lv_iload hx hb dX7_isGreater_80 (lv_at hl 0 rfl) ?_
          refine lv_iload_n hx hb dX7_isGreater_82 rfl (lv_at hl 3 rfl) ?_
          refine lv_imul hx hb dX7_isGreater_83 ?_
          refine lv_icmp_le (tgt := 91) hx hb dX7_isGreater_84 (by decide) (fun cz17 => ?_) (fun cz17 => ?_)
          · have hk := it_t cz17 hk
            refine lv_iconst (v := (0 : Int32)) hx hb dX7_isGreater_91 (by decide) ?_
            cases (show some _ = some _ from hk)
            exact we_z hx hb hr hlocks (show okz (0 : Int32) by unfold okz; decide).1 hP rfl hS dX7_isGreater_92 (by decide) (by decide)
          · have hk := it_f cz17 hk
            refine lv_iconst (v := (1 : Int32)) hx hb dX7_isGreater_87 (by decide) ?_
            refine lv_goto (tgt := 92) hx hb dX7_isGreater_88 (by decide) ?_
            cases (show some _ = some _ from hk)
            exact we_z hx hb hr hlocks (show okz (1 : Int32) by unfold okz; decide).1 hP rfl hS dX7_isGreater_92 (by decide) (by decide)
        refine lv_if_ne (tgt := 68) hx hb dX7_isGreater_61 (by decide) (fun cz18 => ?_) (fun cz18 => ?_)
        · have hk := it_f cz18 hk
          refine lv_aload_n hx hb dX7_isGreater_68 rfl (lv_at hl 3 rfl) ?_
          refine lv_iload_n hx hb dX7_isGreater_69 rfl (lv_at hl 4 rfl) ?_
          obtain ⟨v19, hf20, hk⟩ := b0_s hk
          refine wc_iV0 (rest := []) (As := [.int p1]) ⟨hx, hb, hml, hown, hts⟩ (fun sz => k_X7_weighed l hfl Z hZ X M O p1 v19 hf20 sz) (cw_RX7_259 (args := args) (s := s) hts (Nat.le_of_ble_eq_true rfl) (Nat.le_of_ble_eq_true rfl)) hE hP hK hS (rv_26 hK hP (by decide)) rfl hl.1 rfl (Nat.le_of_ble_eq_true rfl) dX7_isGreater_70 ⟨Nat.le_of_ble_eq_true rfl, Nat.le_of_ble_eq_true rfl⟩ (fun H locs hP hS => ?_)
          exact jn16 v19 _ _ _ hk hP hS (lv_sub hl [0, 1, 2] rfl)
        · have hk := it_t cz18 hk
          refine lv_iconst (v := (1 : Int32)) hx hb dX7_isGreater_64 (by decide) ?_
          refine lv_goto (tgt := 73) hx hb dX7_isGreater_65 (by decide) ?_
          exact jn16 (1 : Int32) _ _ _ hk hP hS (lv_sub hl [0, 1, 2] rfl)
      refine lv_if_ne (tgt := 49) hx hb dX7_isGreater_42 (by decide) (fun cz21 => ?_) (fun cz21 => ?_)
      · have hk := it_f cz21 hk
        refine lv_aload_n hx hb dX7_isGreater_49 rfl (lv_at hl 2 rfl) ?_
        refine lv_iload_n hx hb dX7_isGreater_50 rfl (lv_at hl 3 rfl) ?_
        obtain ⟨v22, hf23, hk⟩ := b0_s hk
        refine wc_iV0 (rest := []) (As := [.int p0]) ⟨hx, hb, hml, hown, hts⟩ (fun sz => k_X7_weighed l hfl Z hZ X M O p0 v22 hf23 sz) (cw_RX7_259 (args := args) (s := s) hts (Nat.le_of_ble_eq_true rfl) (Nat.le_of_ble_eq_true rfl)) hE hP hK hS (rv_26 hK hP (by decide)) rfl hl.1 rfl (Nat.le_of_ble_eq_true rfl) dX7_isGreater_51 ⟨Nat.le_of_ble_eq_true rfl, Nat.le_of_ble_eq_true rfl⟩ (fun H locs hP hS => ?_)
        exact jn12 v22 _ _ _ hk hP hS (lv_sub hl [0, 1, 2, 4] rfl)
      · have hk := it_t cz21 hk
        refine lv_iconst (v := (1 : Int32)) hx hb dX7_isGreater_45 (by decide) ?_
        refine lv_goto (tgt := 54) hx hb dX7_isGreater_46 (by decide) ?_
        exact jn12 (1 : Int32) _ _ _ hk hP hS (lv_sub hl [0, 1, 2, 4] rfl)
    refine lv_if_ne (tgt := 30) hx hb dX7_isGreater_23 (by decide) (fun cz24 => ?_) (fun cz24 => ?_)
    · have hk := it_f cz24 hk
      refine lv_aload_n hx hb dX7_isGreater_30 rfl (lv_at hl 1 rfl) ?_
      refine lv_iload_n hx hb dX7_isGreater_31 rfl (lv_at hl 3 rfl) ?_
      obtain ⟨v25, hf26, hk⟩ := b0_s hk
      refine wc_iV0 (rest := []) (As := [.int p1]) ⟨hx, hb, hml, hown, hts⟩ (fun sz => k_X7_weightOf l hfl Z hZ X M O p1 v25 hf26 sz) (cw_RX7_233 (args := args) (s := s) hts (Nat.le_of_ble_eq_true rfl) (Nat.le_of_ble_eq_true rfl)) hE hP hK hS (rv_26 hK hP (by decide)) rfl hl.1 rfl (Nat.le_of_ble_eq_true rfl) dX7_isGreater_32 ⟨Nat.le_of_ble_eq_true rfl, Nat.le_of_ble_eq_true rfl⟩ (fun H locs hP hS => ?_)
      exact jn8 v25 _ _ _ hk hP hS (lv_sub hl [0, 1, 2, 3] rfl)
    · have hk := it_t cz24 hk
      refine lv_iconst (v := (1 : Int32)) hx hb dX7_isGreater_26 (by decide) ?_
      refine lv_goto (tgt := 35) hx hb dX7_isGreater_27 (by decide) ?_
      exact jn8 (1 : Int32) _ _ _ hk hP hS (lv_sub hl [0, 1, 2, 3] rfl)
  refine lv_if_ne (tgt := 12) hx hb dX7_isGreater_5 (by decide) (fun cz27 => ?_) (fun cz27 => ?_)
  · have hk := it_f cz27 hk
    refine lv_aload_n hx hb dX7_isGreater_12 rfl (lv_at hl 0 rfl) ?_
    refine lv_iload_n hx hb dX7_isGreater_13 rfl (lv_at hl 1 rfl) ?_
    obtain ⟨v28, hf29, hk⟩ := b0_s hk
    refine wc_iV0 (rest := []) (As := [.int p0]) ⟨hx, hb, hml, hown, hts⟩ (fun sz => k_X7_weightOf l hfl Z hZ X M O p0 v28 hf29 sz) (cw_RX7_233 (args := args) (s := s) hts (Nat.le_of_ble_eq_true rfl) (Nat.le_of_ble_eq_true rfl)) hE hP hK hS (rv_26 hK hP (by decide)) rfl hl.1 rfl (Nat.le_of_ble_eq_true rfl) dX7_isGreater_14 ⟨Nat.le_of_ble_eq_true rfl, Nat.le_of_ble_eq_true rfl⟩ (fun H locs hP hS => ?_)
    exact jn4 v28 _ _ _ hk hP hS (lv_sub hl [0, 1, 2] rfl)
  · have hk := it_t cz27 hk
    refine lv_iconst (v := (1 : Int32)) hx hb dX7_isGreater_8 (by decide) ?_
    refine lv_goto (tgt := 17) hx hb dX7_isGreater_9 (by decide) ?_
    exact jn4 (1 : Int32) _ _ _ hk hP hS (lv_sub hl [0, 1, 2] rfl)
set_option maxHeartbeats 4000000 in
set_option maxRecDepth 100000 in
theorem k_X7_bestOf (l : Launch) (hfl : l.stackTraces = false) (Z : ZT) (hZ : wD Z) (X M O : SS) (p0 : Int32) (p1 : Int32) (r : Int32) (hf : f_X7_bestOf M p0 p1 = some (r)) (sz : Nat) : vx_Met l yX7_bestOf ws_X7_bestOf rm_X7_bestOf (va_Pc [.ref (Z.2.2 26 0), .int p0, .int p1] (cP Z (X, M, O) sz)) (cQi Z (X, M, O) (.inl r) sz) (cX Z (X, M, O) (.inl r : Int32 ⊕ String) sz) 0 0 (wA Z sz) := by
  refine vx_ofW (cc := cX7_bestOf) (maxL := 6) (ret := (some .int)) (by decide) rfl ?_
  intro p e s m args below meth c s₁ B hml htab hv
  obtain ⟨hargs, hsz, hE, hP, hK⟩ := hv
  have hx := B.exec
  have hb := B.bytes
  have hr := B.returns
  have hts0 := atoms_spec (ws := ws_X7_bestOf) B.pre
  have hts : ∀ w ∈ lw_all, w.before args s = true := fun w h => hts0 w (List.mem_cons_of_mem _ h)
  have hown : s.vm.findClass RX7 = some m.cls := findClass_of_methodNamed B.named
  have hlocks := B.notSynchronized
  have hout9 : ∀ (pc9 : Nat), ∀ x ∈ c.exceptionTable.toList, covers x pc9 = false := fun _ x hx9 => (htab x hx9).elim
  subst hsz
  have hS : va_S (wA Z s.heap.size) s.heap s.heap [] := va_S.rf
  have hl := lv_entry ([.ref (Z.2.2 26 0), .int p0, .int p1]) (n := 6) (Nat.le_of_ble_eq_true rfl)
  have hen : entryFrame m args 6 = entryFrame m ([.ref (Z.2.2 26 0), .int p0, .int p1] : List Value).toArray 6 := by rw [hargs]
  rw [hen, lg_entry_eq]
  generalize (lg_sl ([.ref (Z.2.2 26 0), .int p0, .int p1]) ++ List.replicate (6 - (lg_sl ([.ref (Z.2.2 26 0), .int p0, .int p1])).length) Slot.unset).toArray = ls at hl ⊢
  have hl : lv_has ls 6 [(0, .ref (Z.2.2 26 0)), (1, .int p0), (2, .int p1)] := hl
  have hk := hf
  unfold f_X7_bestOf at hk
  refine lv_iconst (v := ((-1) : Int32)) hx hb dX7_bestOf_0 (by decide) ?_
  refine lv_istore_n (lv' := [(3, .int ((-1) : Int32)), (0, .ref (Z.2.2 26 0)), (1, .int p0), (2, .int p1)]) hx hb dX7_bestOf_1 rfl hl (by decide) rfl (fun ls hl => ?_)
  refine lv_iconst (v := (0 : Int32)) hx hb dX7_bestOf_2 (by decide) ?_
  refine lv_istore (lv' := [(4, .int (0 : Int32)), (3, .int ((-1) : Int32)), (0, .ref (Z.2.2 26 0)), (1, .int p0), (2, .int p1)]) hx hb dX7_bestOf_3 hl (by decide) rfl (fun ls hl => ?_)
  obtain ⟨k1, hk1, hk⟩ := gn hk
  have ex1 : ∀ (v2 : Int32) (H : Heap) (locs : List Loc) (ls : Array Slot), k1 v2 = some (r) → wP Z (X, M, O) H → va_S (wA Z s.heap.size) s.heap H locs → lv_has ls 6 [(3, .int v2)] → W p l e (headSpec ws_X7_bestOf rm_X7_bestOf).room s m args below meth c H locs 0 0 (vx_MQ below (cQi Z (X, M, O) (.inl r) s.heap.size) (cX Z (X, M, O) (.inl r : Int32 ⊕ String) s.heap.size) args s 0 0 (wA Z s.heap.size)) (F0 m 85 ls []) := by
    intro v2 H locs ls hk hP hS hl
    subst hk1
    refine lv_iload_n hx hb dX7_bestOf_85 rfl (lv_at hl 0 rfl) ?_
    cases (show some _ = some _ from hk)
    exact we_i hx hb hr hlocks hP rfl hS dX7_bestOf_86 (by decide) (by decide)
  have lp1 : ∀ (n : Nat) (v3 : Int32) (v4 : Int32) (H : Heap) (locs : List Loc) (ls : Array Slot), f_X7_bestOf_L5 M p0 p1 n v3 v4 k1 = some (r) → wP Z (X, M, O) H → va_S (wA Z s.heap.size) s.heap H locs → lv_has ls 6 [(4, .int v3), (3, .int v4), (0, .ref (Z.2.2 26 0)), (1, .int p0), (2, .int p1)] → W p l e (headSpec ws_X7_bestOf rm_X7_bestOf).room s m args below meth c H locs 0 0 (vx_MQ below (cQi Z (X, M, O) (.inl r) s.heap.size) (cX Z (X, M, O) (.inl r : Int32 ⊕ String) s.heap.size) args s 0 0 (wA Z s.heap.size)) (F0 m 5 ls []) := by
    intro n
    induction n with
    | zero =>
      intro v3 v4 H locs ls hk
      rw [f_X7_bestOf_L5] at hk
      exact nomatch (show none = some _ from hk)
    | succ n ih =>
      intro v3 v4 H locs ls hk hP hS hl
      rw [f_X7_bestOf_L5] at hk
      refine lv_iload hx hb dX7_bestOf_5 (lv_at hl 0 rfl) ?_
      refine lv_aload_n hx hb dX7_bestOf_7 rfl (lv_at hl 2 rfl) ?_
      refine gf_RX7_25 hx hb hts hown hK hP (by decide) dX7_bestOf_8 ?_
      refine lv_icmp_ge (tgt := 85) hx hb dX7_bestOf_11 (by decide) (fun cz5 => ?_) (fun cz5 => ?_)
      · have hk := it_t cz5 hk
        exact ex1 v4 _ _ _ hk hP hS (lv_sub hl [1] rfl)
      · have hk := it_f cz5 hk
        refine lv_aload_n hx hb dX7_bestOf_14 rfl (lv_at hl 2 rfl) ?_
        refine gf_RX7_78 hx hb hts hown hK hP (by decide) dX7_bestOf_15 ?_
        refine lv_iload hx hb dX7_bestOf_18 (lv_at hl 0 rfl) ?_
        obtain ⟨hg6, hk⟩ := gd_s hk
        refine wa_iaload_39 hx hb hK hP (by decide) hg6 dX7_bestOf_20 ?_
        refine lv_iload_n hx hb dX7_bestOf_21 rfl (lv_at hl 3 rfl) ?_
        have jn8 : ∀ (v7 : Int32) (H : Heap) (locs : List Loc) (ls : Array Slot), f_X7_bestOf_J50 (f_X7_bestOf_L5 M p0 p1 n) k1 v3 v4 M v7 = some (r) → wP Z (X, M, O) H → va_S (wA Z s.heap.size) s.heap H locs → lv_has ls 6 [(4, .int v3), (3, .int v4), (0, .ref (Z.2.2 26 0)), (1, .int p0), (2, .int p1)] → W p l e (headSpec ws_X7_bestOf rm_X7_bestOf).room s m args below meth c H locs 0 0 (vx_MQ below (cQi Z (X, M, O) (.inl r) s.heap.size) (cX Z (X, M, O) (.inl r : Int32 ⊕ String) s.heap.size) args s 0 0 (wA Z s.heap.size)) (F0 m 50 ls [.int v7]) := by
          intro v7 H locs ls hk hP hS hl
          unfold f_X7_bestOf_J50 at hk
          refine lv_istore (lv' := [(5, .int v7), (4, .int v3), (3, .int v4), (0, .ref (Z.2.2 26 0)), (1, .int p0), (2, .int p1)]) hx hb dX7_bestOf_50 hl (by decide) rfl (fun ls hl => ?_)
          refine lv_iload hx hb dX7_bestOf_52 (lv_at hl 0 rfl) ?_
          refine lv_if_eq (tgt := 77) hx hb dX7_bestOf_54 (by decide) (fun cz9 => ?_) (fun cz9 => ?_)
          · have hk := it_t cz9 hk
            refine lv_iload_n hx hb dX7_bestOf_77 rfl (lv_at hl 2 rfl) ?_
            refine lv_istore_n (lv' := [(3, .int v4), (5, .int v7), (4, .int v3), (0, .ref (Z.2.2 26 0)), (1, .int p0), (2, .int p1)]) hx hb dX7_bestOf_78 rfl hl (by decide) rfl (fun ls hl => ?_)
            refine lv_iinc (v := (v3 + (1 : Int32))) (lv' := [(4, .int (v3 + (1 : Int32))), (3, .int v4), (5, .int v7), (0, .ref (Z.2.2 26 0)), (1, .int p0), (2, .int p1)]) hx hb dX7_bestOf_79 hl (k := 2) rfl rfl (by decide) rfl (fun ls hl => ?_)
            refine lv_goto (tgt := 5) hx hb dX7_bestOf_82 (by decide) ?_
            exact ih (v3 + (1 : Int32)) v4 _ _ _ hk hP hS (lv_sub hl [0, 1, 3, 4, 5] rfl)
          · have hk := it_f cz9 hk
            refine lv_iload_n hx hb dX7_bestOf_57 rfl (lv_at hl 2 rfl) ?_
            refine lv_iconst (v := ((-1) : Int32)) hx hb dX7_bestOf_58 (by decide) ?_
            refine lv_icmp_eq (tgt := 72) hx hb dX7_bestOf_59 (by decide) (fun cz10 => ?_) (fun cz10 => ?_)
            · have hk := it_t cz10 hk
              refine lv_iload hx hb dX7_bestOf_72 (lv_at hl 1 rfl) ?_
              refine lv_goto (tgt := 78) hx hb dX7_bestOf_74 (by decide) ?_
              refine lv_istore_n (lv' := [(3, .int v3), (5, .int v7), (4, .int v3), (0, .ref (Z.2.2 26 0)), (1, .int p0), (2, .int p1)]) hx hb dX7_bestOf_78 rfl hl (by decide) rfl (fun ls hl => ?_)
              refine lv_iinc (v := (v3 + (1 : Int32))) (lv' := [(4, .int (v3 + (1 : Int32))), (3, .int v3), (5, .int v7), (0, .ref (Z.2.2 26 0)), (1, .int p0), (2, .int p1)]) hx hb dX7_bestOf_79 hl (k := 2) rfl rfl (by decide) rfl (fun ls hl => ?_)
              refine lv_goto (tgt := 5) hx hb dX7_bestOf_82 (by decide) ?_
              exact ih (v3 + (1 : Int32)) v3 _ _ _ hk hP hS (lv_sub hl [0, 1, 3, 4, 5] rfl)
            · have hk := it_f cz10 hk
              refine lv_aload_n hx hb dX7_bestOf_62 rfl (lv_at hl 3 rfl) ?_
              refine lv_iload hx hb dX7_bestOf_63 (lv_at hl 1 rfl) ?_
              refine lv_iload_n hx hb dX7_bestOf_65 rfl (lv_at hl 2 rfl) ?_
              obtain ⟨v11, hf12, hk⟩ := b0_s hk
              refine wc_iV0 (rest := []) (As := [.int v3, .int v4]) ⟨hx, hb, hml, hown, hts⟩ (fun sz => k_X7_isGreater l hfl Z hZ X M O v3 v4 v11 hf12 sz) (cw_RX7_268 (args := args) (s := s) hts (Nat.le_of_ble_eq_true rfl) (Nat.le_of_ble_eq_true rfl)) hE hP hK hS (rv_26 hK hP (by decide)) rfl hl.1 rfl (Nat.le_of_ble_eq_true rfl) dX7_bestOf_66 ⟨Nat.le_of_ble_eq_true rfl, Nat.le_of_ble_eq_true rfl⟩ (fun H locs hP hS => ?_)
              refine lv_if_eq (tgt := 77) hx hb dX7_bestOf_69 (by decide) (fun cz13 => ?_) (fun cz13 => ?_)
              · have hk := it_t cz13 hk
                refine lv_iload_n hx hb dX7_bestOf_77 rfl (lv_at hl 2 rfl) ?_
                refine lv_istore_n (lv' := [(3, .int v4), (5, .int v7), (4, .int v3), (0, .ref (Z.2.2 26 0)), (1, .int p0), (2, .int p1)]) hx hb dX7_bestOf_78 rfl hl (by decide) rfl (fun ls hl => ?_)
                refine lv_iinc (v := (v3 + (1 : Int32))) (lv' := [(4, .int (v3 + (1 : Int32))), (3, .int v4), (5, .int v7), (0, .ref (Z.2.2 26 0)), (1, .int p0), (2, .int p1)]) hx hb dX7_bestOf_79 hl (k := 2) rfl rfl (by decide) rfl (fun ls hl => ?_)
                refine lv_goto (tgt := 5) hx hb dX7_bestOf_82 (by decide) ?_
                exact ih (v3 + (1 : Int32)) v4 _ _ _ hk hP hS (lv_sub hl [0, 1, 3, 4, 5] rfl)
              · have hk := it_f cz13 hk
                refine lv_iload hx hb dX7_bestOf_72 (lv_at hl 1 rfl) ?_
                refine lv_goto (tgt := 78) hx hb dX7_bestOf_74 (by decide) ?_
                refine lv_istore_n (lv' := [(3, .int v3), (5, .int v7), (4, .int v3), (0, .ref (Z.2.2 26 0)), (1, .int p0), (2, .int p1)]) hx hb dX7_bestOf_78 rfl hl (by decide) rfl (fun ls hl => ?_)
                refine lv_iinc (v := (v3 + (1 : Int32))) (lv' := [(4, .int (v3 + (1 : Int32))), (3, .int v3), (5, .int v7), (0, .ref (Z.2.2 26 0)), (1, .int p0), (2, .int p1)]) hx hb dX7_bestOf_79 hl (k := 2) rfl rfl (by decide) rfl (fun ls hl => ?_)
                refine lv_goto (tgt := 5) hx hb dX7_bestOf_82 (by decide) ?_
                exact ih (v3 + (1 : Int32)) v3 _ _ _ hk hP hS (lv_sub hl [0, 1, 3, 4, 5] rfl)
        have jn14 : ∀ (H : Heap) (locs : List Loc) (ls : Array Slot), f_X7_bestOf_J49 (f_X7_bestOf_L5 M p0 p1 n) k1 v3 v4 M  = some (r) → wP Z (X, M, O) H → va_S (wA Z s.heap.size) s.heap H locs → lv_has ls 6 [(4, .int v3), (3, .int v4), (0, .ref (Z.2.2 26 0)), (1, .int p0), (2, .int p1)] → W p l e (headSpec ws_X7_bestOf rm_X7_bestOf).room s m args below meth c H locs 0 0 (vx_MQ below (cQi Z (X, M, O) (.inl r) s.heap.size) (cX Z (X, M, O) (.inl r : Int32 ⊕ String) s.heap.size) args s 0 0 (wA Z s.heap.size)) (F0 m 49 ls []) := by
          intro  H locs ls hk hP hS hl
          unfold f_X7_bestOf_J49 at hk
          refine lv_iconst (v := (0 : Int32)) hx hb dX7_bestOf_49 (by decide) ?_
          exact jn8 (0 : Int32) _ _ _ hk hP hS (lv_sub hl [0, 1, 2, 3, 4] rfl)
        refine lv_icmp_ne (tgt := 49) hx hb dX7_bestOf_22 (by decide) (fun cz15 => ?_) (fun cz15 => ?_)
        · have hk := it_f cz15 hk
          exact jn14 _ _ _ hk hP hS (lv_sub hl [0, 1, 2, 3, 4] rfl)
        · have hk := it_t cz15 hk
          refine lv_aload_n hx hb dX7_bestOf_25 rfl (lv_at hl 2 rfl) ?_
          refine gf_RX7_81 hx hb hts hown hK hP (by decide) dX7_bestOf_26 ?_
          refine lv_iload hx hb dX7_bestOf_29 (lv_at hl 0 rfl) ?_
          obtain ⟨hg16, hk⟩ := gd_s hk
          refine wa_iaload_40 hx hb hK hP (by decide) hg16 dX7_bestOf_31 ?_
          refine lv_iload_n hx hb dX7_bestOf_32 rfl (lv_at hl 4 rfl) ?_
          refine lv_icmp_ne (tgt := 49) hx hb dX7_bestOf_33 (by decide) (fun cz17 => ?_) (fun cz17 => ?_)
          · have hk := it_f cz17 hk
            exact jn14 _ _ _ hk hP hS (lv_sub hl [0, 1, 2, 3, 4] rfl)
          · have hk := it_t cz17 hk
            refine lv_aload_n hx hb dX7_bestOf_36 rfl (lv_at hl 2 rfl) ?_
            refine lv_iload hx hb dX7_bestOf_37 (lv_at hl 0 rfl) ?_
            obtain ⟨v18, hf19, hk⟩ := b0_s hk
            refine wc_iV0 (rest := []) (As := [.int v3]) ⟨hx, hb, hml, hown, hts⟩ (fun sz => k_X7_counts l hfl Z hZ X M O v3 v18 hf19 sz) (cw_RX7_265 (args := args) (s := s) hts (Nat.le_of_ble_eq_true rfl) (Nat.le_of_ble_eq_true rfl)) hE hP hK hS (rv_26 hK hP (by decide)) rfl hl.1 rfl (Nat.le_of_ble_eq_true rfl) dX7_bestOf_39 ⟨Nat.le_of_ble_eq_true rfl, Nat.le_of_ble_eq_true rfl⟩ (fun H locs hP hS => ?_)
            refine lv_if_eq (tgt := 49) hx hb dX7_bestOf_42 (by decide) (fun cz20 => ?_) (fun cz20 => ?_)
            · have hk := it_t cz20 hk
              exact jn14 _ _ _ hk hP hS (lv_sub hl [0, 1, 2, 3, 4] rfl)
            · have hk := it_f cz20 hk
              refine lv_iconst (v := (1 : Int32)) hx hb dX7_bestOf_45 (by decide) ?_
              refine lv_goto (tgt := 50) hx hb dX7_bestOf_46 (by decide) ?_
              exact jn8 (1 : Int32) _ _ _ hk hP hS (lv_sub hl [0, 1, 2, 3, 4] rfl)
  exact lp1 1000 (0 : Int32) ((-1) : Int32) _ _ _ hk hP hS (lv_sub hl [0, 1, 2, 3, 4] rfl)
set_option maxHeartbeats 4000000 in
set_option maxRecDepth 100000 in
theorem k_X7_pointsOf (l : Launch) (hfl : l.stackTraces = false) (Z : ZT) (hZ : wD Z) (X M O : SS) (p0 : Int32) (r : UInt32) (hf : f_X7_pointsOf M p0 = some (r)) (sz : Nat) : vx_Met l yX7_pointsOf ws_X7_pointsOf rm_X7_pointsOf (va_Pc [.ref (Z.2.2 26 0), .int p0] (cP Z (X, M, O) sz)) (cQf Z (X, M, O) (.inl r) sz) (cX Z (X, M, O) (.inl r : UInt32 ⊕ String) sz) 0 0 (wA Z sz) := by
  refine vx_ofW (cc := cX7_pointsOf) (maxL := 6) (ret := (some .float)) (by decide) rfl ?_
  intro p e s m args below meth c s₁ B hml htab hv
  obtain ⟨hargs, hsz, hE, hP, hK⟩ := hv
  have hx := B.exec
  have hb := B.bytes
  have hr := B.returns
  have hts0 := atoms_spec (ws := ws_X7_pointsOf) B.pre
  have hts : ∀ w ∈ lw_all, w.before args s = true := fun w h => hts0 w (List.mem_cons_of_mem _ h)
  have hown : s.vm.findClass RX7 = some m.cls := findClass_of_methodNamed B.named
  have hlocks := B.notSynchronized
  have hout9 : ∀ (pc9 : Nat), ∀ x ∈ c.exceptionTable.toList, covers x pc9 = false := fun _ x hx9 => (htab x hx9).elim
  subst hsz
  have hS : va_S (wA Z s.heap.size) s.heap s.heap [] := va_S.rf
  have hl := lv_entry ([.ref (Z.2.2 26 0), .int p0]) (n := 6) (Nat.le_of_ble_eq_true rfl)
  have hen : entryFrame m args 6 = entryFrame m ([.ref (Z.2.2 26 0), .int p0] : List Value).toArray 6 := by rw [hargs]
  rw [hen, lg_entry_eq]
  generalize (lg_sl ([.ref (Z.2.2 26 0), .int p0]) ++ List.replicate (6 - (lg_sl ([.ref (Z.2.2 26 0), .int p0])).length) Slot.unset).toArray = ls at hl ⊢
  have hl : lv_has ls 6 [(0, .ref (Z.2.2 26 0)), (1, .int p0)] := hl
  have hk := hf
  unfold f_X7_pointsOf at hk
  refine lv_fconst0 hx hb dX7_pointsOf_0 ?_
  obtain ⟨v1, ev1, hk⟩ := lq_s hk
  refine W.eq (g2 := F0 m 1 ls [.float v1]) (by rw [ev1]) ?_
  refine lv_fstore_n (lv' := [(2, .float v1), (0, .ref (Z.2.2 26 0)), (1, .int p0)]) hx hb dX7_pointsOf_1 rfl hl (by decide) rfl (fun ls hl => ?_)
  refine lv_iconst (v := (0 : Int32)) hx hb dX7_pointsOf_2 (by decide) ?_
  refine lv_istore_n (lv' := [(3, .int (0 : Int32)), (2, .float v1), (0, .ref (Z.2.2 26 0)), (1, .int p0)]) hx hb dX7_pointsOf_3 rfl hl (by decide) rfl (fun ls hl => ?_)
  obtain ⟨k2, hk2, hk⟩ := gn hk
  have ex2 : ∀ (v3 : UInt32) (H : Heap) (locs : List Loc) (ls : Array Slot), k2 v3 = some (r) → wP Z (X, M, O) H → va_S (wA Z s.heap.size) s.heap H locs → lv_has ls 6 [(2, .float v3)] → W p l e (headSpec ws_X7_pointsOf rm_X7_pointsOf).room s m args below meth c H locs 0 0 (vx_MQ below (cQf Z (X, M, O) (.inl r) s.heap.size) (cX Z (X, M, O) (.inl r : UInt32 ⊕ String) s.heap.size) args s 0 0 (wA Z s.heap.size)) (F0 m 79 ls []) := by
    intro v3 H locs ls hk hP hS hl
    subst hk2
    refine lv_fload_n hx hb dX7_pointsOf_79 rfl (lv_at hl 0 rfl) ?_
    cases (show some _ = some _ from hk)
    exact we_f hx hb hr hlocks hP rfl hS dX7_pointsOf_80 (by decide) (by decide)
  have lp2 : ∀ (n : Nat) (v4 : Int32) (v5 : UInt32) (H : Heap) (locs : List Loc) (ls : Array Slot), f_X7_pointsOf_L4 M p0 n v4 v5 k2 = some (r) → wP Z (X, M, O) H → va_S (wA Z s.heap.size) s.heap H locs → lv_has ls 6 [(3, .int v4), (2, .float v5), (0, .ref (Z.2.2 26 0)), (1, .int p0)] → W p l e (headSpec ws_X7_pointsOf rm_X7_pointsOf).room s m args below meth c H locs 0 0 (vx_MQ below (cQf Z (X, M, O) (.inl r) s.heap.size) (cX Z (X, M, O) (.inl r : UInt32 ⊕ String) s.heap.size) args s 0 0 (wA Z s.heap.size)) (F0 m 4 ls []) := by
    intro n
    induction n with
    | zero =>
      intro v4 v5 H locs ls hk
      rw [f_X7_pointsOf_L4] at hk
      exact nomatch (show none = some _ from hk)
    | succ n ih =>
      intro v4 v5 H locs ls hk hP hS hl
      rw [f_X7_pointsOf_L4] at hk
      refine lv_iload_n hx hb dX7_pointsOf_4 rfl (lv_at hl 0 rfl) ?_
      refine lv_aload_n hx hb dX7_pointsOf_5 rfl (lv_at hl 2 rfl) ?_
      refine gf_RX7_19 hx hb hts hown hK hP (by decide) dX7_pointsOf_6 ?_
      refine lv_icmp_ge (tgt := 79) hx hb dX7_pointsOf_9 (by decide) (fun cz6 => ?_) (fun cz6 => ?_)
      · have hk := it_t cz6 hk
        exact ex2 v5 _ _ _ hk hP hS (lv_sub hl [1] rfl)
      · have hk := it_f cz6 hk
        refine lv_aload_n hx hb dX7_pointsOf_12 rfl (lv_at hl 2 rfl) ?_
        refine lv_iload_n hx hb dX7_pointsOf_13 rfl (lv_at hl 3 rfl) ?_
        refine lv_iload_n hx hb dX7_pointsOf_14 rfl (lv_at hl 0 rfl) ?_
        obtain ⟨v7, hf8, hk⟩ := b0_s hk
        refine wc_iV0 (rest := []) (As := [.int p0, .int v4]) ⟨hx, hb, hml, hown, hts⟩ (fun sz => k_X7_bestOf l hfl Z hZ X M O p0 v4 v7 hf8 sz) (cw_RX7_271 (args := args) (s := s) hts (Nat.le_of_ble_eq_true rfl) (Nat.le_of_ble_eq_true rfl)) hE hP hK hS (rv_26 hK hP (by decide)) rfl hl.1 rfl (Nat.le_of_ble_eq_true rfl) dX7_pointsOf_15 ⟨Nat.le_of_ble_eq_true rfl, Nat.le_of_ble_eq_true rfl⟩ (fun H locs hP hS => ?_)
        refine lv_istore (lv' := [(4, .int v7), (3, .int v4), (2, .float v5), (0, .ref (Z.2.2 26 0)), (1, .int p0)]) hx hb dX7_pointsOf_18 hl (by decide) rfl (fun ls hl => ?_)
        refine lv_iload hx hb dX7_pointsOf_20 (lv_at hl 0 rfl) ?_
        refine lv_iconst (v := ((-1) : Int32)) hx hb dX7_pointsOf_22 (by decide) ?_
        refine lv_icmp_ne (tgt := 29) hx hb dX7_pointsOf_23 (by decide) (fun cz9 => ?_) (fun cz9 => ?_)
        · have hk := it_f cz9 hk
          refine lv_aload_n hx hb dX7_pointsOf_29 rfl (lv_at hl 3 rfl) ?_
          refine lv_iload hx hb dX7_pointsOf_30 (lv_at hl 0 rfl) ?_
          obtain ⟨v10, hf11, hk⟩ := b0_s hk
          refine wc_iV0 (rest := []) (As := [.int v7]) ⟨hx, hb, hml, hown, hts⟩ (fun sz => k_X7_weightOf l hfl Z hZ X M O v7 v10 hf11 sz) (cw_RX7_233 (args := args) (s := s) hts (Nat.le_of_ble_eq_true rfl) (Nat.le_of_ble_eq_true rfl)) hE hP hK hS (rv_26 hK hP (by decide)) rfl hl.1 rfl (Nat.le_of_ble_eq_true rfl) dX7_pointsOf_32 ⟨Nat.le_of_ble_eq_true rfl, Nat.le_of_ble_eq_true rfl⟩ (fun H locs hP hS => ?_)
          refine lv_istore (lv' := [(5, .int v10), (4, .int v7), (3, .int v4), (2, .float v5), (0, .ref (Z.2.2 26 0)), (1, .int p0)]) hx hb dX7_pointsOf_35 hl (by decide) rfl (fun ls hl => ?_)
          refine lv_fload_n hx hb dX7_pointsOf_37 rfl (lv_at hl 3 rfl) ?_
          refine lv_iload hx hb dX7_pointsOf_38 (lv_at hl 0 rfl) ?_
          refine lv_if_ne (tgt := 53) hx hb dX7_pointsOf_40 (by decide) (fun cz12 => ?_) (fun cz12 => ?_)
          · have hk := it_f cz12 hk
            refine lv_aload_n hx hb dX7_pointsOf_53 rfl (lv_at hl 4 rfl) ?_
            refine gf_RX7_57 hx hb hts hown hK hP (by decide) dX7_pointsOf_54 ?_
            refine lv_iload_n hx hb dX7_pointsOf_57 rfl (lv_at hl 2 rfl) ?_
            obtain ⟨hg13, hk⟩ := gd_s hk
            refine wa_iaload_32 hx hb hK hP (by decide) hg13 dX7_pointsOf_58 ?_
            refine lv_aload_n hx hb dX7_pointsOf_59 rfl (lv_at hl 4 rfl) ?_
            refine lv_iload hx hb dX7_pointsOf_60 (lv_at hl 1 rfl) ?_
            obtain ⟨v14, hf15, hk⟩ := b0_s hk
            refine wc_iV0 (rest := [.int (M.1 32 0 (v4).toNatClampNeg), .float v5]) (As := [.int v7]) ⟨hx, hb, hml, hown, hts⟩ (fun sz => k_X7_weighed l hfl Z hZ X M O v7 v14 hf15 sz) (cw_RX7_259 (args := args) (s := s) hts (Nat.le_of_ble_eq_true rfl) (Nat.le_of_ble_eq_true rfl)) hE hP hK hS (rv_26 hK hP (by decide)) rfl hl.1 rfl (Nat.le_of_ble_eq_true rfl) dX7_pointsOf_62 ⟨Nat.le_of_ble_eq_true rfl, Nat.le_of_ble_eq_true rfl⟩ (fun H locs hP hS => ?_)
            refine lv_imul hx hb dX7_pointsOf_65 ?_
            refine lv_i2f hx hb dX7_pointsOf_66 ?_
            refine lv_iload hx hb dX7_pointsOf_67 (lv_at hl 0 rfl) ?_
            refine lv_i2f hx hb dX7_pointsOf_69 ?_
            obtain ⟨hg16, hk⟩ := gd_s hk
            refine lv_fdiv hx hb dX7_pointsOf_70 hg16 ?_
            obtain ⟨hg17, hk⟩ := gd_s hk
            refine lv_fadd hx hb dX7_pointsOf_71 hg17 ?_
            obtain ⟨v18, ev18, hk⟩ := lq_s hk
            refine W.eq (g2 := F0 m 72 ls [.float v18]) (by rw [ev18]) ?_
            refine lv_fstore_n (lv' := [(2, .float v18), (5, .int v10), (4, .int v7), (3, .int v4), (0, .ref (Z.2.2 26 0)), (1, .int p0)]) hx hb dX7_pointsOf_72 rfl hl (by decide) rfl (fun ls hl => ?_)
            refine lv_iinc (v := (v4 + (1 : Int32))) (lv' := [(3, .int (v4 + (1 : Int32))), (2, .float v18), (5, .int v10), (4, .int v7), (0, .ref (Z.2.2 26 0)), (1, .int p0)]) hx hb dX7_pointsOf_73 hl (k := 3) rfl rfl (by decide) rfl (fun ls hl => ?_)
            refine lv_goto (tgt := 4) hx hb dX7_pointsOf_76 (by decide) ?_
            exact ih (v4 + (1 : Int32)) v18 _ _ _ hk hP hS (lv_sub hl [0, 1, 4, 5] rfl)
          · have hk := it_t cz12 hk
            refine lv_aload_n hx hb dX7_pointsOf_43 rfl (lv_at hl 4 rfl) ?_
            refine gf_RX7_57 hx hb hts hown hK hP (by decide) dX7_pointsOf_44 ?_
            refine lv_iload_n hx hb dX7_pointsOf_47 rfl (lv_at hl 2 rfl) ?_
            obtain ⟨hg19, hk⟩ := gd_s hk
            refine wa_iaload_32 hx hb hK hP (by decide) hg19 dX7_pointsOf_48 ?_
            refine lv_i2f hx hb dX7_pointsOf_49 ?_
            refine lv_goto (tgt := 71) hx hb dX7_pointsOf_50 (by decide) ?_
            obtain ⟨hg20, hk⟩ := gd_s hk
            refine lv_fadd hx hb dX7_pointsOf_71 hg20 ?_
            obtain ⟨v21, ev21, hk⟩ := lq_s hk
            refine W.eq (g2 := F0 m 72 ls [.float v21]) (by rw [ev21]) ?_
            refine lv_fstore_n (lv' := [(2, .float v21), (5, .int v10), (4, .int v7), (3, .int v4), (0, .ref (Z.2.2 26 0)), (1, .int p0)]) hx hb dX7_pointsOf_72 rfl hl (by decide) rfl (fun ls hl => ?_)
            refine lv_iinc (v := (v4 + (1 : Int32))) (lv' := [(3, .int (v4 + (1 : Int32))), (2, .float v21), (5, .int v10), (4, .int v7), (0, .ref (Z.2.2 26 0)), (1, .int p0)]) hx hb dX7_pointsOf_73 hl (k := 3) rfl rfl (by decide) rfl (fun ls hl => ?_)
            refine lv_goto (tgt := 4) hx hb dX7_pointsOf_76 (by decide) ?_
            exact ih (v4 + (1 : Int32)) v21 _ _ _ hk hP hS (lv_sub hl [0, 1, 4, 5] rfl)
        · have hk := it_t cz9 hk
          refine lv_goto (tgt := 73) hx hb dX7_pointsOf_26 (by decide) ?_
          refine lv_iinc (v := (v4 + (1 : Int32))) (lv' := [(3, .int (v4 + (1 : Int32))), (4, .int v7), (2, .float v5), (0, .ref (Z.2.2 26 0)), (1, .int p0)]) hx hb dX7_pointsOf_73 hl (k := 1) rfl rfl (by decide) rfl (fun ls hl => ?_)
          refine lv_goto (tgt := 4) hx hb dX7_pointsOf_76 (by decide) ?_
          exact ih (v4 + (1 : Int32)) v5 _ _ _ hk hP hS (lv_sub hl [0, 2, 3, 4] rfl)
  exact lp2 1000 (0 : Int32) v1 _ _ _ hk hP hS (lv_sub hl [0, 1, 2, 3] rfl)