set_option maxHeartbeats 4000000 in
set_option maxRecDepth 100000 in
theorem k_X7_challenge (l : Launch) (hfl : l.stackTraces = false) (Z : ZT) (hZ : wD Z) (X M O : SS) (p0 : Int32) (p1 : Int32) (Mz : SS) (r : Int32) (hf : f_X7_challenge M p0 p1 = some (Mz, r)) (sz : Nat) : vx_Met l yX7_challenge ws_X7_challenge rm_X7_challenge (va_Pc [.ref (Z.2.2 26 0), .int p0, .int p1] (cP Z (X, M, O) sz)) (cQi Z (X, Mz, O) (.inl r) sz) (cX Z (X, Mz, O) (.inl r : Int32 ⊕ String) sz) 0 0 (wA Z sz) := by
  refine vx_ofW (cc := cX7_challenge) (maxL := 3) (ret := (some .int)) (by decide) rfl ?_
  intro p e s m args below meth c s₁ B hml htab hv
  obtain ⟨hargs, hsz, hE, hP, hK⟩ := hv
  have hx := B.exec
  have hb := B.bytes
  have hr := B.returns
  have hts0 := atoms_spec (ws := ws_X7_challenge) B.pre
  have hts : ∀ w ∈ lw_all, w.before args s = true := fun w h => hts0 w (List.mem_cons_of_mem _ h)
  have hown : s.vm.findClass RX7 = some m.cls := findClass_of_methodNamed B.named
  have hlocks := B.notSynchronized
  have hout9 : ∀ (pc9 : Nat), ∀ x ∈ c.exceptionTable.toList, covers x pc9 = false := fun _ x hx9 => (htab x hx9).elim
  subst hsz
  have hS : va_S (wA Z s.heap.size) s.heap s.heap [] := va_S.rf
  have hl := lv_entry ([.ref (Z.2.2 26 0), .int p0, .int p1]) (n := 3) (Nat.le_of_ble_eq_true rfl)
  have hen : entryFrame m args 3 = entryFrame m ([.ref (Z.2.2 26 0), .int p0, .int p1] : List Value).toArray 3 := by rw [hargs]
  rw [hen, lg_entry_eq]
  generalize (lg_sl ([.ref (Z.2.2 26 0), .int p0, .int p1]) ++ List.replicate (3 - (lg_sl ([.ref (Z.2.2 26 0), .int p0, .int p1])).length) Slot.unset).toArray = ls at hl ⊢
  have hl : lv_has ls 3 [(0, .ref (Z.2.2 26 0)), (1, .int p0), (2, .int p1)] := hl
  have hk := hf
  unfold f_X7_challenge at hk
  refine lv_aload_n hx hb dX7_challenge_0 rfl (lv_at hl 0 rfl) ?_
  refine lv_iload_n hx hb dX7_challenge_1 rfl (lv_at hl 1 rfl) ?_
  obtain ⟨v1, hf2, hk⟩ := b0_s hk
  refine wc_iV0 (rest := []) (As := [.int p0]) ⟨hx, hb, hml, hown, hts⟩ (fun sz => k_X7_isMember l hfl Z hZ X M O p0 v1 hf2 sz) (cw_RX7_214 (args := args) (s := s) hts (Nat.le_of_ble_eq_true rfl) (Nat.le_of_ble_eq_true rfl)) hE hP hK hS (rv_26 hK hP (by decide)) rfl hl.1 rfl (Nat.le_of_ble_eq_true rfl) dX7_challenge_2 ⟨Nat.le_of_ble_eq_true rfl, Nat.le_of_ble_eq_true rfl⟩ (fun H locs hP hS => ?_)
  refine lv_if_eq (tgt := 16) hx hb dX7_challenge_5 (by decide) (fun cz3 => ?_) (fun cz3 => ?_)
  · have hk := it_t cz3 hk
    refine lv_aload_n hx hb dX7_challenge_16 rfl (lv_at hl 0 rfl) ?_
    refine lv_iconst (v := (1 : Int32)) hx hb dX7_challenge_17 (by decide) ?_
    obtain ⟨M5, v4, hf6, hk⟩ := b1_s hk
    refine wc_iV0 (rest := []) (As := [.int (1 : Int32)]) ⟨hx, hb, hml, hown, hts⟩ (fun sz => k_X7_fails l hfl Z hZ X M O (1 : Int32) M5 v4 hf6 sz) (cw_RX7_165 (args := args) (s := s) hts (Nat.le_of_ble_eq_true rfl) (Nat.le_of_ble_eq_true rfl)) hE hP hK hS (rv_26 hK hP (by decide)) rfl hl.1 rfl (Nat.le_of_ble_eq_true rfl) dX7_challenge_18 ⟨Nat.le_of_ble_eq_true rfl, Nat.le_of_ble_eq_true rfl⟩ (fun H locs hP hS => ?_)
    cases (show some _ = some _ from hk)
    exact we_i hx hb hr hlocks hP rfl hS dX7_challenge_21 (by decide) (by decide)
  · have hk := it_f cz3 hk
    refine lv_aload_n hx hb dX7_challenge_8 rfl (lv_at hl 0 rfl) ?_
    refine lv_iload_n hx hb dX7_challenge_9 rfl (lv_at hl 2 rfl) ?_
    obtain ⟨v7, hf8, hk⟩ := b0_s hk
    refine wc_iV0 (rest := []) (As := [.int p1]) ⟨hx, hb, hml, hown, hts⟩ (fun sz => k_X7_isWork l hfl Z hZ X M O p1 v7 hf8 sz) (cw_RX7_227 (args := args) (s := s) hts (Nat.le_of_ble_eq_true rfl) (Nat.le_of_ble_eq_true rfl)) hE hP hK hS (rv_26 hK hP (by decide)) rfl hl.1 rfl (Nat.le_of_ble_eq_true rfl) dX7_challenge_10 ⟨Nat.le_of_ble_eq_true rfl, Nat.le_of_ble_eq_true rfl⟩ (fun H locs hP hS => ?_)
    refine lv_if_ne (tgt := 22) hx hb dX7_challenge_13 (by decide) (fun cz9 => ?_) (fun cz9 => ?_)
    · have hk := it_f cz9 hk
      refine lv_aload_n hx hb dX7_challenge_22 rfl (lv_at hl 0 rfl) ?_
      refine gf_RX7_78 hx hb hts hown hK hP (by decide) dX7_challenge_23 ?_
      refine lv_iload_n hx hb dX7_challenge_26 rfl (lv_at hl 2 rfl) ?_
      obtain ⟨hg10, hk⟩ := gd_s hk
      refine wa_iaload_39 hx hb hK hP (by decide) hg10 dX7_challenge_27 ?_
      refine lv_iload_n hx hb dX7_challenge_28 rfl (lv_at hl 1 rfl) ?_
      refine lv_icmp_eq (tgt := 53) hx hb dX7_challenge_29 (by decide) (fun cz11 => ?_) (fun cz11 => ?_)
      · have hk := it_t cz11 hk
        refine lv_aload_n hx hb dX7_challenge_53 rfl (lv_at hl 0 rfl) ?_
        refine lv_iconst (v := (2 : Int32)) hx hb dX7_challenge_54 (by decide) ?_
        obtain ⟨M13, v12, hf14, hk⟩ := b1_s hk
        refine wc_iV0 (rest := []) (As := [.int (2 : Int32)]) ⟨hx, hb, hml, hown, hts⟩ (fun sz => k_X7_fails l hfl Z hZ X M O (2 : Int32) M13 v12 hf14 sz) (cw_RX7_165 (args := args) (s := s) hts (Nat.le_of_ble_eq_true rfl) (Nat.le_of_ble_eq_true rfl)) hE hP hK hS (rv_26 hK hP (by decide)) rfl hl.1 rfl (Nat.le_of_ble_eq_true rfl) dX7_challenge_55 ⟨Nat.le_of_ble_eq_true rfl, Nat.le_of_ble_eq_true rfl⟩ (fun H locs hP hS => ?_)
        cases (show some _ = some _ from hk)
        exact we_i hx hb hr hlocks hP rfl hS dX7_challenge_58 (by decide) (by decide)
      · have hk := it_f cz11 hk
        refine lv_aload_n hx hb dX7_challenge_32 rfl (lv_at hl 0 rfl) ?_
        refine gf_RX7_88 hx hb hts hown hK hP (by decide) dX7_challenge_33 ?_
        refine lv_iload_n hx hb dX7_challenge_36 rfl (lv_at hl 2 rfl) ?_
        obtain ⟨hg15, hk⟩ := gd_s hk
        refine wa_caload_42 hx hb hK hP (by decide) hg15 dX7_challenge_37 ?_
        refine lv_bipush (v := (112 : Int32)) hx hb dX7_challenge_38 (by decide) ?_
        refine lv_icmp_ne (tgt := 53) hx hb dX7_challenge_40 (by decide) (fun cz16 => ?_) (fun cz16 => ?_)
        · have hk := it_f cz16 hk
          refine lv_aload_n hx hb dX7_challenge_53 rfl (lv_at hl 0 rfl) ?_
          refine lv_iconst (v := (2 : Int32)) hx hb dX7_challenge_54 (by decide) ?_
          obtain ⟨M18, v17, hf19, hk⟩ := b1_s hk
          refine wc_iV0 (rest := []) (As := [.int (2 : Int32)]) ⟨hx, hb, hml, hown, hts⟩ (fun sz => k_X7_fails l hfl Z hZ X M O (2 : Int32) M18 v17 hf19 sz) (cw_RX7_165 (args := args) (s := s) hts (Nat.le_of_ble_eq_true rfl) (Nat.le_of_ble_eq_true rfl)) hE hP hK hS (rv_26 hK hP (by decide)) rfl hl.1 rfl (Nat.le_of_ble_eq_true rfl) dX7_challenge_55 ⟨Nat.le_of_ble_eq_true rfl, Nat.le_of_ble_eq_true rfl⟩ (fun H locs hP hS => ?_)
          cases (show some _ = some _ from hk)
          exact we_i hx hb hr hlocks hP rfl hS dX7_challenge_58 (by decide) (by decide)
        · have hk := it_t cz16 hk
          refine lv_aload_n hx hb dX7_challenge_43 rfl (lv_at hl 0 rfl) ?_
          refine gf_RX7_116 hx hb hts hown hK hP (by decide) dX7_challenge_44 ?_
          refine lv_iload_n hx hb dX7_challenge_47 rfl (lv_at hl 1 rfl) ?_
          obtain ⟨hg20, hk⟩ := gd_s hk
          refine wa_iaload_51 hx hb hK hP (by decide) hg20 dX7_challenge_48 ?_
          refine lv_iconst (v := (2 : Int32)) hx hb dX7_challenge_49 (by decide) ?_
          refine lv_icmp_ge (tgt := 59) hx hb dX7_challenge_50 (by decide) (fun cz21 => ?_) (fun cz21 => ?_)
          · have hk := it_t cz21 hk
            refine lv_aload_n hx hb dX7_challenge_59 rfl (lv_at hl 0 rfl) ?_
            obtain ⟨v22, hf23, hk⟩ := b0_s hk
            refine wc_iV0 (rest := []) (As := []) ⟨hx, hb, hml, hown, hts⟩ (fun sz => k_X7_openCount l hfl Z hZ X M O v22 hf23 sz) (cw_RX7_281 (args := args) (s := s) hts (Nat.le_of_ble_eq_true rfl) (Nat.le_of_ble_eq_true rfl)) hE hP hK hS (rv_26 hK hP (by decide)) rfl hl.1 rfl (Nat.le_of_ble_eq_true rfl) dX7_challenge_60 ⟨Nat.le_of_ble_eq_true rfl, Nat.le_of_ble_eq_true rfl⟩ (fun H locs hP hS => ?_)
            refine lv_bipush (v := (8 : Int32)) hx hb dX7_challenge_63 (by decide) ?_
            refine lv_icmp_ne (tgt := 74) hx hb dX7_challenge_65 (by decide) (fun cz24 => ?_) (fun cz24 => ?_)
            · have hk := it_f cz24 hk
              refine lv_aload_n hx hb dX7_challenge_74 rfl (lv_at hl 0 rfl) ?_
              refine gf_RX7_116 hx hb hts hown hK hP (by decide) dX7_challenge_75 ?_
              refine lv_iload_n hx hb dX7_challenge_78 rfl (lv_at hl 1 rfl) ?_
              refine lv_dup2_11 hx hb dX7_challenge_79 rfl rfl ?_
              obtain ⟨hg25, hk⟩ := gd_s hk
              refine wa_iaload_51 hx hb hK hP (by decide) hg25 dX7_challenge_80 ?_
              refine lv_iconst (v := (2 : Int32)) hx hb dX7_challenge_81 (by decide) ?_
              refine lv_isub hx hb dX7_challenge_82 ?_
              obtain ⟨hg26, hk⟩ := gd_s hk
              obtain ⟨M27, eM27, hk⟩ := lq_s hk
              refine wa_iastore_51 hx hb hZ hK hP hS (by decide) hg26 dX7_challenge_83 (fun H locs hP hS => ?_)
              rw [← eM27] at hP
              refine lv_aload_n hx hb dX7_challenge_84 rfl (lv_at hl 0 rfl) ?_
              refine gf_RX7_88 hx hb hts hown hK hP (by decide) dX7_challenge_85 ?_
              refine lv_iload_n hx hb dX7_challenge_88 rfl (lv_at hl 2 rfl) ?_
              refine lv_bipush (v := (99 : Int32)) hx hb dX7_challenge_89 (by decide) ?_
              obtain ⟨hg28, hk⟩ := gd_s hk
              obtain ⟨M29, eM29, hk⟩ := lq_s hk
              refine wa_castore_42 hx hb hZ hK hP hS (by decide) hg28 dX7_challenge_91 (fun H locs hP hS => ?_)
              rw [← eM29] at hP
              refine lv_aload_n hx hb dX7_challenge_92 rfl (lv_at hl 0 rfl) ?_
              refine gf_RX7_107 hx hb hts hown hK hP (by decide) dX7_challenge_93 ?_
              refine lv_iload_n hx hb dX7_challenge_96 rfl (lv_at hl 2 rfl) ?_
              refine lv_iload_n hx hb dX7_challenge_97 rfl (lv_at hl 1 rfl) ?_
              obtain ⟨hg30, hk⟩ := gd_s hk
              obtain ⟨M31, eM31, hk⟩ := lq_s hk
              refine wa_iastore_48 hx hb hZ hK hP hS (by decide) hg30 dX7_challenge_98 (fun H locs hP hS => ?_)
              rw [← eM31] at hP
              refine lv_aload_n hx hb dX7_challenge_99 rfl (lv_at hl 0 rfl) ?_
              refine gf_RX7_110 hx hb hts hown hK hP (by decide) dX7_challenge_100 ?_
              refine lv_iload_n hx hb dX7_challenge_103 rfl (lv_at hl 2 rfl) ?_
              refine lv_bipush (v := (7 : Int32)) hx hb dX7_challenge_104 (by decide) ?_
              obtain ⟨hg32, hk⟩ := gd_s hk
              obtain ⟨M33, eM33, hk⟩ := lq_s hk
              refine wa_iastore_49 hx hb hZ hK hP hS (by decide) hg32 dX7_challenge_106 (fun H locs hP hS => ?_)
              rw [← eM33] at hP
              refine lv_aload_n hx hb dX7_challenge_107 rfl (lv_at hl 0 rfl) ?_
              refine gf_RX7_113 hx hb hts hown hK hP (by decide) dX7_challenge_108 ?_
              refine lv_iload_n hx hb dX7_challenge_111 rfl (lv_at hl 2 rfl) ?_
              refine lv_aload_n hx hb dX7_challenge_112 rfl (lv_at hl 0 rfl) ?_
              refine gf_RX7_34 hx hb hts hown hK hP (by decide) dX7_challenge_113 ?_
              obtain ⟨hg34, hk⟩ := gd_s hk
              obtain ⟨M35, eM35, hk⟩ := lq_s hk
              refine wa_iastore_50 hx hb hZ hK hP hS (by decide) hg34 dX7_challenge_116 (fun H locs hP hS => ?_)
              rw [← eM35] at hP
              refine lv_aload_n hx hb dX7_challenge_117 rfl (lv_at hl 0 rfl) ?_
              refine lv_dup hx hb dX7_challenge_118 rfl ?_
              refine gf_RX7_34 hx hb hts hown hK hP (by decide) dX7_challenge_119 ?_
              refine lv_iconst (v := (1 : Int32)) hx hb dX7_challenge_122 (by decide) ?_
              refine lv_iadd hx hb dX7_challenge_123 ?_
              obtain ⟨M36, eM36, hk⟩ := lq_s hk
              refine pf_RX7_34 hx hb hts hown hZ hK hP hS (by decide) dX7_challenge_124 (fun H locs hP hS => ?_)
              rw [← eM36] at hP
              refine lv_aload_n hx hb dX7_challenge_127 rfl (lv_at hl 0 rfl) ?_
              refine lv_aload_n hx hb dX7_challenge_128 rfl (lv_at hl 0 rfl) ?_
              obtain ⟨v37, hf38, hk⟩ := b0_s hk
              refine wc_iV0 (rest := [.ref (Z.2.2 26 0)]) (As := []) ⟨hx, hb, hml, hown, hts⟩ (fun sz => k_X7_openCount l hfl Z hZ X M36 O v37 hf38 sz) (cw_RX7_281 (args := args) (s := s) hts (Nat.le_of_ble_eq_true rfl) (Nat.le_of_ble_eq_true rfl)) hE hP hK hS (rv_26 hK hP (by decide)) rfl hl.1 rfl (Nat.le_of_ble_eq_true rfl) dX7_challenge_129 ⟨Nat.le_of_ble_eq_true rfl, Nat.le_of_ble_eq_true rfl⟩ (fun H locs hP hS => ?_)
              obtain ⟨M40, v39, hf41, hk⟩ := b1_s hk
              refine wc_iV0 (rest := []) (As := [.int v37]) ⟨hx, hb, hml, hown, hts⟩ (fun sz => k_X7_tells l hfl Z hZ X M36 O v37 M40 v39 hf41 sz) (cw_RX7_169 (args := args) (s := s) hts (Nat.le_of_ble_eq_true rfl) (Nat.le_of_ble_eq_true rfl)) hE hP hK hS (rv_26 hK hP (by decide)) rfl hl.1 rfl (Nat.le_of_ble_eq_true rfl) dX7_challenge_132 ⟨Nat.le_of_ble_eq_true rfl, Nat.le_of_ble_eq_true rfl⟩ (fun H locs hP hS => ?_)
              cases (show some _ = some _ from hk)
              exact we_i hx hb hr hlocks hP rfl hS dX7_challenge_135 (by decide) (by decide)
            · have hk := it_t cz24 hk
              refine lv_aload_n hx hb dX7_challenge_68 rfl (lv_at hl 0 rfl) ?_
              refine lv_iconst (v := (3 : Int32)) hx hb dX7_challenge_69 (by decide) ?_
              obtain ⟨M43, v42, hf44, hk⟩ := b1_s hk
              refine wc_iV0 (rest := []) (As := [.int (3 : Int32)]) ⟨hx, hb, hml, hown, hts⟩ (fun sz => k_X7_fails l hfl Z hZ X M O (3 : Int32) M43 v42 hf44 sz) (cw_RX7_165 (args := args) (s := s) hts (Nat.le_of_ble_eq_true rfl) (Nat.le_of_ble_eq_true rfl)) hE hP hK hS (rv_26 hK hP (by decide)) rfl hl.1 rfl (Nat.le_of_ble_eq_true rfl) dX7_challenge_70 ⟨Nat.le_of_ble_eq_true rfl, Nat.le_of_ble_eq_true rfl⟩ (fun H locs hP hS => ?_)
              cases (show some _ = some _ from hk)
              exact we_i hx hb hr hlocks hP rfl hS dX7_challenge_73 (by decide) (by decide)
          · have hk := it_f cz21 hk
            refine lv_aload_n hx hb dX7_challenge_53 rfl (lv_at hl 0 rfl) ?_
            refine lv_iconst (v := (2 : Int32)) hx hb dX7_challenge_54 (by decide) ?_
            obtain ⟨M46, v45, hf47, hk⟩ := b1_s hk
            refine wc_iV0 (rest := []) (As := [.int (2 : Int32)]) ⟨hx, hb, hml, hown, hts⟩ (fun sz => k_X7_fails l hfl Z hZ X M O (2 : Int32) M46 v45 hf47 sz) (cw_RX7_165 (args := args) (s := s) hts (Nat.le_of_ble_eq_true rfl) (Nat.le_of_ble_eq_true rfl)) hE hP hK hS (rv_26 hK hP (by decide)) rfl hl.1 rfl (Nat.le_of_ble_eq_true rfl) dX7_challenge_55 ⟨Nat.le_of_ble_eq_true rfl, Nat.le_of_ble_eq_true rfl⟩ (fun H locs hP hS => ?_)
            cases (show some _ = some _ from hk)
            exact we_i hx hb hr hlocks hP rfl hS dX7_challenge_58 (by decide) (by decide)
    · have hk := it_t cz9 hk
      refine lv_aload_n hx hb dX7_challenge_16 rfl (lv_at hl 0 rfl) ?_
      refine lv_iconst (v := (1 : Int32)) hx hb dX7_challenge_17 (by decide) ?_
      obtain ⟨M49, v48, hf50, hk⟩ := b1_s hk
      refine wc_iV0 (rest := []) (As := [.int (1 : Int32)]) ⟨hx, hb, hml, hown, hts⟩ (fun sz => k_X7_fails l hfl Z hZ X M O (1 : Int32) M49 v48 hf50 sz) (cw_RX7_165 (args := args) (s := s) hts (Nat.le_of_ble_eq_true rfl) (Nat.le_of_ble_eq_true rfl)) hE hP hK hS (rv_26 hK hP (by decide)) rfl hl.1 rfl (Nat.le_of_ble_eq_true rfl) dX7_challenge_18 ⟨Nat.le_of_ble_eq_true rfl, Nat.le_of_ble_eq_true rfl⟩ (fun H locs hP hS => ?_)
      cases (show some _ = some _ from hk)
      exact we_i hx hb hr hlocks hP rfl hS dX7_challenge_21 (by decide) (by decide)
set_option maxHeartbeats 4000000 in
set_option maxRecDepth 100000 in
theorem k_X7_closes (l : Launch) (hfl : l.stackTraces = false) (Z : ZT) (hZ : wD Z) (X M O : SS) (p0 : Int32) (p1 : Int32) (Mz : SS) (r : Int32) (hf : f_X7_closes M p0 p1 = some (Mz, r)) (sz : Nat) : vx_Met l yX7_closes ws_X7_closes rm_X7_closes (va_Pc [.ref (Z.2.2 26 0), .int p0, .int p1] (cP Z (X, M, O) sz)) (cQi Z (X, Mz, O) (.inl r) sz) (cX Z (X, Mz, O) (.inl r : Int32 ⊕ String) sz) 0 0 (wA Z sz) := by
  refine vx_ofW (cc := cX7_closes) (maxL := 4) (ret := (some .char)) (by decide) rfl ?_
  intro p e s m args below meth c s₁ B hml htab hv
  obtain ⟨hargs, hsz, hE, hP, hK⟩ := hv
  have hx := B.exec
  have hb := B.bytes
  have hr := B.returns
  have hts0 := atoms_spec (ws := ws_X7_closes) B.pre
  have hts : ∀ w ∈ lw_all, w.before args s = true := fun w h => hts0 w (List.mem_cons_of_mem _ h)
  have hown : s.vm.findClass RX7 = some m.cls := findClass_of_methodNamed B.named
  have hlocks := B.notSynchronized
  have hout9 : ∀ (pc9 : Nat), ∀ x ∈ c.exceptionTable.toList, covers x pc9 = false := fun _ x hx9 => (htab x hx9).elim
  subst hsz
  have hS : va_S (wA Z s.heap.size) s.heap s.heap [] := va_S.rf
  have hl := lv_entry ([.ref (Z.2.2 26 0), .int p0, .int p1]) (n := 4) (Nat.le_of_ble_eq_true rfl)
  have hen : entryFrame m args 4 = entryFrame m ([.ref (Z.2.2 26 0), .int p0, .int p1] : List Value).toArray 4 := by rw [hargs]
  rw [hen, lg_entry_eq]
  generalize (lg_sl ([.ref (Z.2.2 26 0), .int p0, .int p1]) ++ List.replicate (4 - (lg_sl ([.ref (Z.2.2 26 0), .int p0, .int p1])).length) Slot.unset).toArray = ls at hl ⊢
  have hl : lv_has ls 4 [(0, .ref (Z.2.2 26 0)), (1, .int p0), (2, .int p1)] := hl
  have hk := hf
  unfold f_X7_closes at hk
  refine lv_aload_n hx hb dX7_closes_0 rfl (lv_at hl 0 rfl) ?_
  refine gf_RX7_91 hx hb hts hown hK hP (by decide) dX7_closes_1 ?_
  refine lv_iload_n hx hb dX7_closes_4 rfl (lv_at hl 2 rfl) ?_
  refine lv_iconst (v := (1 : Int32)) hx hb dX7_closes_5 (by decide) ?_
  obtain ⟨hg1, hk⟩ := gd_s hk
  obtain ⟨M2, eM2, hk⟩ := lq_s hk
  refine wa_bastore_43 hx hb hZ hK hP hS (by decide) hg1 dX7_closes_6 (fun H locs hP hS => ?_)
  rw [← eM2] at hP
  refine lv_aload_n hx hb dX7_closes_7 rfl (lv_at hl 0 rfl) ?_
  refine lv_iload_n hx hb dX7_closes_8 rfl (lv_at hl 2 rfl) ?_
  refine lv_aload_n hx hb dX7_closes_9 rfl (lv_at hl 0 rfl) ?_
  refine gf_RX7_81 hx hb hts hown hK hP (by decide) dX7_closes_10 ?_
  refine lv_iload_n hx hb dX7_closes_13 rfl (lv_at hl 2 rfl) ?_
  obtain ⟨hg3, hk⟩ := gd_s hk
  refine wa_iaload_40 hx hb hK hP (by decide) hg3 dX7_closes_14 ?_
  obtain ⟨M5, v4, hf6, hk⟩ := b1_s hk
  refine wc_iV0 (rest := []) (As := [.int p1, .int (M2.1 40 0 (p1).toNatClampNeg)]) ⟨hx, hb, hml, hown, hts⟩ (fun sz => k_X7_passes l hfl Z hZ X M2 O p1 (M2.1 40 0 (p1).toNatClampNeg) M5 v4 hf6 sz) (cw_RX7_196 (args := args) (s := s) hts (Nat.le_of_ble_eq_true rfl) (Nat.le_of_ble_eq_true rfl)) hE hP hK hS (rv_26 hK hP (by decide)) rfl hl.1 rfl (Nat.le_of_ble_eq_true rfl) dX7_closes_15 ⟨Nat.le_of_ble_eq_true rfl, Nat.le_of_ble_eq_true rfl⟩ (fun H locs hP hS => ?_)
  refine lv_if_eq (tgt := 55) hx hb dX7_closes_18 (by decide) (fun cz7 => ?_) (fun cz7 => ?_)
  · have hk := it_t cz7 hk
    refine lv_aload_n hx hb dX7_closes_55 rfl (lv_at hl 0 rfl) ?_
    refine lv_iload_n hx hb dX7_closes_56 rfl (lv_at hl 2 rfl) ?_
    refine lv_bipush (v := (98 : Int32)) hx hb dX7_closes_57 (by decide) ?_
    obtain ⟨M9, v8, hf10, hk⟩ := b1_s hk
    refine wc_vV0 (rest := []) (As := [.int p1, .int (98 : Int32)]) ⟨hx, hb, hml, hown, hts⟩ (fun sz => k_X7_loses l hfl Z hZ X M5 O p1 (98 : Int32) M9 v8 hf10 sz) (cw_RX7_239 (args := args) (s := s) hts (Nat.le_of_ble_eq_true rfl) (Nat.le_of_ble_eq_true rfl)) hE hP hK hS (rv_26 hK hP (by decide)) rfl hl.1 rfl (Nat.le_of_ble_eq_true rfl) dX7_closes_59 ⟨Nat.le_of_ble_eq_true rfl, Nat.le_of_ble_eq_true rfl⟩ (fun H locs hP hS => ?_)
    refine lv_aload_n hx hb dX7_closes_62 rfl (lv_at hl 0 rfl) ?_
    refine gf_RX7_116 hx hb hts hown hK hP (by decide) dX7_closes_63 ?_
    refine lv_aload_n hx hb dX7_closes_66 rfl (lv_at hl 0 rfl) ?_
    refine gf_RX7_107 hx hb hts hown hK hP (by decide) dX7_closes_67 ?_
    refine lv_iload_n hx hb dX7_closes_70 rfl (lv_at hl 2 rfl) ?_
    obtain ⟨hg11, hk⟩ := gd_s hk
    refine wa_iaload_48 hx hb hK hP (by decide) hg11 dX7_closes_71 ?_
    refine lv_dup2_11 hx hb dX7_closes_72 rfl rfl ?_
    obtain ⟨hg12, hk⟩ := gd_s hk
    refine wa_iaload_51 hx hb hK hP (by decide) hg12 dX7_closes_73 ?_
    refine lv_iconst (v := (5 : Int32)) hx hb dX7_closes_74 (by decide) ?_
    refine lv_iadd hx hb dX7_closes_75 ?_
    obtain ⟨hg13, hk⟩ := gd_s hk
    obtain ⟨M14, eM14, hk⟩ := lq_s hk
    refine wa_iastore_51 hx hb hZ hK hP hS (by decide) hg13 dX7_closes_76 (fun H locs hP hS => ?_)
    rw [← eM14] at hP
    refine lv_bipush (v := (98 : Int32)) hx hb dX7_closes_77 (by decide) ?_
    cases (show some _ = some _ from hk)
    exact we_z hx hb hr hlocks (show okc (98 : Int32) by unfold okc; decide).1 hP rfl hS dX7_closes_79 (by decide) (by decide)
  · have hk := it_f cz7 hk
    refine lv_aload_n hx hb dX7_closes_21 rfl (lv_at hl 0 rfl) ?_
    refine gf_RX7_88 hx hb hts hown hK hP (by decide) dX7_closes_22 ?_
    refine lv_iload_n hx hb dX7_closes_25 rfl (lv_at hl 2 rfl) ?_
    refine lv_bipush (v := (115 : Int32)) hx hb dX7_closes_26 (by decide) ?_
    obtain ⟨hg15, hk⟩ := gd_s hk
    obtain ⟨M16, eM16, hk⟩ := lq_s hk
    refine wa_castore_42 hx hb hZ hK hP hS (by decide) hg15 dX7_closes_28 (fun H locs hP hS => ?_)
    rw [← eM16] at hP
    refine lv_aload_n hx hb dX7_closes_29 rfl (lv_at hl 0 rfl) ?_
    refine gf_RX7_116 hx hb hts hown hK hP (by decide) dX7_closes_30 ?_
    refine lv_iload_n hx hb dX7_closes_33 rfl (lv_at hl 1 rfl) ?_
    refine lv_dup2_11 hx hb dX7_closes_34 rfl rfl ?_
    obtain ⟨hg17, hk⟩ := gd_s hk
    refine wa_iaload_51 hx hb hK hP (by decide) hg17 dX7_closes_35 ?_
    refine lv_iconst (v := (3 : Int32)) hx hb dX7_closes_36 (by decide) ?_
    refine lv_iadd hx hb dX7_closes_37 ?_
    obtain ⟨hg18, hk⟩ := gd_s hk
    obtain ⟨M19, eM19, hk⟩ := lq_s hk
    refine wa_iastore_51 hx hb hZ hK hP hS (by decide) hg18 dX7_closes_38 (fun H locs hP hS => ?_)
    rw [← eM19] at hP
    refine lv_aload_n hx hb dX7_closes_39 rfl (lv_at hl 0 rfl) ?_
    obtain ⟨M21, v20, hf22, hk⟩ := b1_s hk
    refine wc_iV0 (rest := []) (As := []) ⟨hx, hb, hml, hown, hts⟩ (fun sz => k_X7_makesRoom l hfl Z hZ X M19 O M21 v20 hf22 sz) (cw_RX7_224 (args := args) (s := s) hts (Nat.le_of_ble_eq_true rfl) (Nat.le_of_ble_eq_true rfl)) hE hP hK hS (rv_26 hK hP (by decide)) rfl hl.1 rfl (Nat.le_of_ble_eq_true rfl) dX7_closes_40 ⟨Nat.le_of_ble_eq_true rfl, Nat.le_of_ble_eq_true rfl⟩ (fun H locs hP hS => ?_)
    refine lv_istore_n (lv' := [(3, .int v20), (0, .ref (Z.2.2 26 0)), (1, .int p0), (2, .int p1)]) hx hb dX7_closes_43 rfl hl (by decide) rfl (fun ls hl => ?_)
    refine lv_iload_n hx hb dX7_closes_44 rfl (lv_at hl 0 rfl) ?_
    refine lv_if_lt (tgt := 53) hx hb dX7_closes_45 (by decide) (fun cz23 => ?_) (fun cz23 => ?_)
    · have hk := it_t cz23 hk
      refine lv_iconst (v := (0 : Int32)) hx hb dX7_closes_53 (by decide) ?_
      cases (show some _ = some _ from hk)
      exact we_z hx hb hr hlocks (show okc (0 : Int32) by unfold okc; decide).1 hP rfl hS dX7_closes_54 (by decide) (by decide)
    · have hk := it_f cz23 hk
      refine lv_bipush (v := (115 : Int32)) hx hb dX7_closes_48 (by decide) ?_
      refine lv_goto (tgt := 54) hx hb dX7_closes_50 (by decide) ?_
      cases (show some _ = some _ from hk)
      exact we_z hx hb hr hlocks (show okc (115 : Int32) by unfold okc; decide).1 hP rfl hS dX7_closes_54 (by decide) (by decide)
set_option maxHeartbeats 4000000 in
set_option maxRecDepth 100000 in
theorem k_X7_give (l : Launch) (hfl : l.stackTraces = false) (Z : ZT) (hZ : wD Z) (X M O : SS) (p0 : Int32) (p1 : Int32) (Mz : SS) (r : Int32) (hf : f_X7_give M p0 p1 = some (Mz, r)) (sz : Nat) : vx_Met l yX7_give ws_X7_give rm_X7_give (va_Pc [.ref (Z.2.2 26 0), .int p0, .int p1] (cP Z (X, M, O) sz)) (cQi Z (X, Mz, O) (.inl r) sz) (cX Z (X, Mz, O) (.inl r : Int32 ⊕ String) sz) 0 0 (wA Z sz) := by
  refine vx_ofW (cc := cX7_give) (maxL := 3) (ret := (some .char)) (by decide) rfl ?_
  intro p e s m args below meth c s₁ B hml htab hv
  obtain ⟨hargs, hsz, hE, hP, hK⟩ := hv
  have hx := B.exec
  have hb := B.bytes
  have hr := B.returns
  have hts0 := atoms_spec (ws := ws_X7_give) B.pre
  have hts : ∀ w ∈ lw_all, w.before args s = true := fun w h => hts0 w (List.mem_cons_of_mem _ h)
  have hown : s.vm.findClass RX7 = some m.cls := findClass_of_methodNamed B.named
  have hlocks := B.notSynchronized
  have hout9 : ∀ (pc9 : Nat), ∀ x ∈ c.exceptionTable.toList, covers x pc9 = false := fun _ x hx9 => (htab x hx9).elim
  subst hsz
  have hS : va_S (wA Z s.heap.size) s.heap s.heap [] := va_S.rf
  have hl := lv_entry ([.ref (Z.2.2 26 0), .int p0, .int p1]) (n := 3) (Nat.le_of_ble_eq_true rfl)
  have hen : entryFrame m args 3 = entryFrame m ([.ref (Z.2.2 26 0), .int p0, .int p1] : List Value).toArray 3 := by rw [hargs]
  rw [hen, lg_entry_eq]
  generalize (lg_sl ([.ref (Z.2.2 26 0), .int p0, .int p1]) ++ List.replicate (3 - (lg_sl ([.ref (Z.2.2 26 0), .int p0, .int p1])).length) Slot.unset).toArray = ls at hl ⊢
  have hl : lv_has ls 3 [(0, .ref (Z.2.2 26 0)), (1, .int p0), (2, .int p1)] := hl
  have hk := hf
  unfold f_X7_give at hk
  refine lv_aload_n hx hb dX7_give_0 rfl (lv_at hl 0 rfl) ?_
  refine lv_aload_n hx hb dX7_give_1 rfl (lv_at hl 0 rfl) ?_
  refine lv_iload_n hx hb dX7_give_2 rfl (lv_at hl 1 rfl) ?_
  obtain ⟨v1, hf2, hk⟩ := b0_s hk
  refine wc_iV0 (rest := [.ref (Z.2.2 26 0)]) (As := [.int p0]) ⟨hx, hb, hml, hown, hts⟩ (fun sz => k_X7_isMember l hfl Z hZ X M O p0 v1 hf2 sz) (cw_RX7_214 (args := args) (s := s) hts (Nat.le_of_ble_eq_true rfl) (Nat.le_of_ble_eq_true rfl)) hE hP hK hS (rv_26 hK hP (by decide)) rfl hl.1 rfl (Nat.le_of_ble_eq_true rfl) dX7_give_3 ⟨Nat.le_of_ble_eq_true rfl, Nat.le_of_ble_eq_true rfl⟩ (fun H locs hP hS => ?_)
  have jn4 : ∀ (v3 : Int32) (H : Heap) (locs : List Loc) (ls : Array Slot), f_X7_give_J50 M p0 p1 v3 = some (Mz, r) → wP Z (X, M, O) H → va_S (wA Z s.heap.size) s.heap H locs → lv_has ls 3 [(0, .ref (Z.2.2 26 0)), (1, .int p0), (2, .int p1)] → W p l e (headSpec ws_X7_give rm_X7_give).room s m args below meth c H locs 0 0 (vx_MQ below (cQi Z (X, Mz, O) (.inl r) s.heap.size) (cX Z (X, Mz, O) (.inl r : Int32 ⊕ String) s.heap.size) args s 0 0 (wA Z s.heap.size)) (F0 m 50 ls [.int v3, .ref (Z.2.2 26 0)]) := by
    intro v3 H locs ls hk hP hS hl
    unfold f_X7_give_J50 at hk
    obtain ⟨M5, eM5, hk⟩ := lq_s hk
    refine pf_RX7_37 hx hb hts hown hZ hK hP hS (by decide) dX7_give_50 (fun H locs hP hS => ?_)
    rw [← eM5] at hP
    refine lv_aload_n hx hb dX7_give_53 rfl (lv_at hl 0 rfl) ?_
    refine gf_RX7_37 hx hb hts hown hK hP (by decide) dX7_give_54 ?_
    refine lv_if_le (tgt := 64) hx hb dX7_give_57 (by decide) (fun cz6 => ?_) (fun cz6 => ?_)
    · have hk := it_t cz6 hk
      refine lv_aload_n hx hb dX7_give_64 rfl (lv_at hl 0 rfl) ?_
      refine lv_iload_n hx hb dX7_give_65 rfl (lv_at hl 1 rfl) ?_
      refine lv_iload_n hx hb dX7_give_66 rfl (lv_at hl 2 rfl) ?_
      obtain ⟨M8, v7, hf9, hk⟩ := b1_s hk
      refine wc_iV0 (rest := []) (As := [.int p0, .int p1]) ⟨hx, hb, hml, hown, hts⟩ (fun sz => k_X7_closes l hfl Z hZ X M5 O p0 p1 M8 v7 hf9 sz) (cw_RX7_287 (args := args) (s := s) hts (Nat.le_of_ble_eq_true rfl) (Nat.le_of_ble_eq_true rfl)) hE hP hK hS (rv_26 hK hP (by decide)) rfl hl.1 rfl (Nat.le_of_ble_eq_true rfl) dX7_give_67 ⟨Nat.le_of_ble_eq_true rfl, Nat.le_of_ble_eq_true rfl⟩ (fun H locs hP hS => ?_)
      obtain ⟨hg10, hk⟩ := gd_s hk
      cases (show some _ = some _ from hk)
      exact we_z hx hb hr hlocks hg10.1 hP rfl hS dX7_give_70 (by decide) (by decide)
    · have hk := it_f cz6 hk
      refine lv_iconst (v := (0 : Int32)) hx hb dX7_give_60 (by decide) ?_
      refine lv_goto (tgt := 70) hx hb dX7_give_61 (by decide) ?_
      cases (show some _ = some _ from hk)
      exact we_z hx hb hr hlocks (show okc (0 : Int32) by unfold okc; decide).1 hP rfl hS dX7_give_70 (by decide) (by decide)
  have jn11 : ∀ (H : Heap) (locs : List Loc) (ls : Array Slot), f_X7_give_J17 M p0 p1  = some (Mz, r) → wP Z (X, M, O) H → va_S (wA Z s.heap.size) s.heap H locs → lv_has ls 3 [(0, .ref (Z.2.2 26 0)), (1, .int p0), (2, .int p1)] → W p l e (headSpec ws_X7_give rm_X7_give).room s m args below meth c H locs 0 0 (vx_MQ below (cQi Z (X, Mz, O) (.inl r) s.heap.size) (cX Z (X, Mz, O) (.inl r : Int32 ⊕ String) s.heap.size) args s 0 0 (wA Z s.heap.size)) (F0 m 17 ls [.ref (Z.2.2 26 0)]) := by
    intro  H locs ls hk hP hS hl
    unfold f_X7_give_J17 at hk
    refine lv_iconst (v := (1 : Int32)) hx hb dX7_give_17 (by decide) ?_
    refine lv_goto (tgt := 50) hx hb dX7_give_18 (by decide) ?_
    exact jn4 (1 : Int32) _ _ _ hk hP hS (lv_sub hl [0, 1, 2] rfl)
  refine lv_if_eq (tgt := 17) hx hb dX7_give_6 (by decide) (fun cz12 => ?_) (fun cz12 => ?_)
  · have hk := it_t cz12 hk
    exact jn11 _ _ _ hk hP hS (lv_sub hl [0, 1, 2] rfl)
  · have hk := it_f cz12 hk
    refine lv_aload_n hx hb dX7_give_9 rfl (lv_at hl 0 rfl) ?_
    refine lv_iload_n hx hb dX7_give_10 rfl (lv_at hl 2 rfl) ?_
    obtain ⟨v13, hf14, hk⟩ := b0_s hk
    refine wc_iV0 (rest := [.ref (Z.2.2 26 0)]) (As := [.int p1]) ⟨hx, hb, hml, hown, hts⟩ (fun sz => k_X7_isWork l hfl Z hZ X M O p1 v13 hf14 sz) (cw_RX7_227 (args := args) (s := s) hts (Nat.le_of_ble_eq_true rfl) (Nat.le_of_ble_eq_true rfl)) hE hP hK hS (rv_26 hK hP (by decide)) rfl hl.1 rfl (Nat.le_of_ble_eq_true rfl) dX7_give_11 ⟨Nat.le_of_ble_eq_true rfl, Nat.le_of_ble_eq_true rfl⟩ (fun H locs hP hS => ?_)
    refine lv_if_ne (tgt := 21) hx hb dX7_give_14 (by decide) (fun cz15 => ?_) (fun cz15 => ?_)
    · have hk := it_f cz15 hk
      refine lv_aload_n hx hb dX7_give_21 rfl (lv_at hl 0 rfl) ?_
      refine gf_RX7_88 hx hb hts hown hK hP (by decide) dX7_give_22 ?_
      refine lv_iload_n hx hb dX7_give_25 rfl (lv_at hl 2 rfl) ?_
      obtain ⟨hg16, hk⟩ := gd_s hk
      refine wa_caload_42 hx hb hK hP (by decide) hg16 dX7_give_26 ?_
      refine lv_bipush (v := (99 : Int32)) hx hb dX7_give_27 (by decide) ?_
      refine lv_icmp_eq (tgt := 36) hx hb dX7_give_29 (by decide) (fun cz17 => ?_) (fun cz17 => ?_)
      · have hk := it_t cz17 hk
        refine lv_aload_n hx hb dX7_give_36 rfl (lv_at hl 0 rfl) ?_
        refine lv_iload_n hx hb dX7_give_37 rfl (lv_at hl 1 rfl) ?_
        refine lv_iload_n hx hb dX7_give_38 rfl (lv_at hl 2 rfl) ?_
        obtain ⟨v18, hf19, hk⟩ := b0_s hk
        refine wc_iV0 (rest := [.ref (Z.2.2 26 0)]) (As := [.int p0, .int p1]) ⟨hx, hb, hml, hown, hts⟩ (fun sz => k_X7_hasCopy l hfl Z hZ X M O p0 p1 v18 hf19 sz) (cw_RX7_284 (args := args) (s := s) hts (Nat.le_of_ble_eq_true rfl) (Nat.le_of_ble_eq_true rfl)) hE hP hK hS (rv_26 hK hP (by decide)) rfl hl.1 rfl (Nat.le_of_ble_eq_true rfl) dX7_give_39 ⟨Nat.le_of_ble_eq_true rfl, Nat.le_of_ble_eq_true rfl⟩ (fun H locs hP hS => ?_)
        refine lv_if_ne (tgt := 49) hx hb dX7_give_42 (by decide) (fun cz20 => ?_) (fun cz20 => ?_)
        · have hk := it_f cz20 hk
          refine lv_iconst (v := (0 : Int32)) hx hb dX7_give_49 (by decide) ?_
          exact jn4 (0 : Int32) _ _ _ hk hP hS (lv_sub hl [0, 1, 2] rfl)
        · have hk := it_t cz20 hk
          refine lv_iconst (v := (3 : Int32)) hx hb dX7_give_45 (by decide) ?_
          refine lv_goto (tgt := 50) hx hb dX7_give_46 (by decide) ?_
          exact jn4 (3 : Int32) _ _ _ hk hP hS (lv_sub hl [0, 1, 2] rfl)
      · have hk := it_f cz17 hk
        refine lv_iconst (v := (2 : Int32)) hx hb dX7_give_32 (by decide) ?_
        refine lv_goto (tgt := 50) hx hb dX7_give_33 (by decide) ?_
        exact jn4 (2 : Int32) _ _ _ hk hP hS (lv_sub hl [0, 1, 2] rfl)
    · have hk := it_t cz15 hk
      exact jn11 _ _ _ hk hP hS (lv_sub hl [0, 1, 2] rfl)
set_option maxHeartbeats 4000000 in
set_option maxRecDepth 100000 in
theorem k_X7_isBody (l : Launch) (hfl : l.stackTraces = false) (Z : ZT) (hZ : wD Z) (X M O : SS) (p0 : Int32) (Mz : SS) (r : Int32) (hf : f_X7_isBody M p0 = some (Mz, r)) (sz : Nat) : vx_Met l yX7_isBody ws_X7_isBody rm_X7_isBody (va_Pc [.ref (Z.2.2 26 0), .int p0] (cP Z (X, M, O) sz)) (cQi Z (X, Mz, O) (.inl r) sz) (cX Z (X, Mz, O) (.inl r : Int32 ⊕ String) sz) 0 0 (wA Z sz) := by
  refine vx_ofW (cc := cX7_isBody) (maxL := 8) (ret := (some .boolean)) (by decide) rfl ?_
  intro p e s m args below meth c s₁ B hml htab hv
  obtain ⟨hargs, hsz, hE, hP, hK⟩ := hv
  have hx := B.exec
  have hb := B.bytes
  have hr := B.returns
  have hts0 := atoms_spec (ws := ws_X7_isBody) B.pre
  have hts : ∀ w ∈ lw_all, w.before args s = true := fun w h => hts0 w (List.mem_cons_of_mem _ h)
  have hown : s.vm.findClass RX7 = some m.cls := findClass_of_methodNamed B.named
  have hlocks := B.notSynchronized
  have hout9 : ∀ (pc9 : Nat), ∀ x ∈ c.exceptionTable.toList, covers x pc9 = false := fun _ x hx9 => (htab x hx9).elim
  subst hsz
  have hS : va_S (wA Z s.heap.size) s.heap s.heap [] := va_S.rf
  have hl := lv_entry ([.ref (Z.2.2 26 0), .int p0]) (n := 8) (Nat.le_of_ble_eq_true rfl)
  have hen : entryFrame m args 8 = entryFrame m ([.ref (Z.2.2 26 0), .int p0] : List Value).toArray 8 := by rw [hargs]
  rw [hen, lg_entry_eq]
  generalize (lg_sl ([.ref (Z.2.2 26 0), .int p0]) ++ List.replicate (8 - (lg_sl ([.ref (Z.2.2 26 0), .int p0])).length) Slot.unset).toArray = ls at hl ⊢
  have hl : lv_has ls 8 [(0, .ref (Z.2.2 26 0)), (1, .int p0)] := hl
  have hk := hf
  unfold f_X7_isBody at hk
  refine lv_aload_n hx hb dX7_isBody_0 rfl (lv_at hl 0 rfl) ?_
  refine lv_bipush (v := (40 : Int32)) hx hb dX7_isBody_1 (by decide) ?_
  obtain ⟨v1, hf2, hk⟩ := b0_s hk
  refine wc_lV0 (rest := []) (As := [.int (40 : Int32)]) ⟨hx, hb, hml, hown, hts⟩ (fun sz => k_X7_sumOf l hfl Z hZ X M O (40 : Int32) v1 hf2 sz) (cw_RX7_220 (args := args) (s := s) hts (Nat.le_of_ble_eq_true rfl) (Nat.le_of_ble_eq_true rfl)) hE hP hK hS (rv_26 hK hP (by decide)) rfl hl.1 rfl (Nat.le_of_ble_eq_true rfl) dX7_isBody_3 ⟨Nat.le_of_ble_eq_true rfl, Nat.le_of_ble_eq_true rfl⟩ (fun H locs hP hS => ?_)
  refine lv_aload_n hx hb dX7_isBody_6 rfl (lv_at hl 0 rfl) ?_
  refine gf_RX7_84 hx hb hts hown hK hP (by decide) dX7_isBody_7 ?_
  refine lv_iload_n hx hb dX7_isBody_10 rfl (lv_at hl 1 rfl) ?_
  obtain ⟨hg3, hk⟩ := gd_s hk
  refine wa_laload_41 hx hb hK hP (by decide) hg3 dX7_isBody_11 ?_
  refine W.lcmp hx hb dX7_isBody_12 ?_
  have jn5 : ∀ (v4 : Int32) (H : Heap) (locs : List Loc) (ls : Array Slot), f_X7_isBody_J37 p0 M v4 = some (Mz, r) → wP Z (X, M, O) H → va_S (wA Z s.heap.size) s.heap H locs → lv_has ls 8 [(0, .ref (Z.2.2 26 0)), (1, .int p0)] → W p l e (headSpec ws_X7_isBody rm_X7_isBody).room s m args below meth c H locs 0 0 (vx_MQ below (cQi Z (X, Mz, O) (.inl r) s.heap.size) (cX Z (X, Mz, O) (.inl r : Int32 ⊕ String) s.heap.size) args s 0 0 (wA Z s.heap.size)) (F0 m 37 ls [.int v4]) := by
    intro v4 H locs ls hk hP hS hl
    unfold f_X7_isBody_J37 at hk
    refine lv_istore_n (lv' := [(2, .int v4), (0, .ref (Z.2.2 26 0)), (1, .int p0)]) hx hb dX7_isBody_37 rfl hl (by decide) rfl (fun ls hl => ?_)
    refine lv_iconst (v := (0 : Int32)) hx hb dX7_isBody_38 (by decide) ?_
    refine lv_istore_n (lv' := [(3, .int (0 : Int32)), (2, .int v4), (0, .ref (Z.2.2 26 0)), (1, .int p0)]) hx hb dX7_isBody_39 rfl hl (by decide) rfl (fun ls hl => ?_)
    obtain ⟨k6, hk6, hk⟩ := gn hk
    have ex6 : ∀ (v7 : Int32) (M8 : SS) (H : Heap) (locs : List Loc) (ls : Array Slot), k6 v7 M8 = some (Mz, r) → wP Z (X, M8, O) H → va_S (wA Z s.heap.size) s.heap H locs → lv_has ls 8 [(2, .int v7)] → W p l e (headSpec ws_X7_isBody rm_X7_isBody).room s m args below meth c H locs 0 0 (vx_MQ below (cQi Z (X, Mz, O) (.inl r) s.heap.size) (cX Z (X, Mz, O) (.inl r : Int32 ⊕ String) s.heap.size) args s 0 0 (wA Z s.heap.size)) (F0 m 159 ls []) := by
      intro v7 M8 H locs ls hk hP hS hl
      subst hk6
      refine lv_iload_n hx hb dX7_isBody_159 rfl (lv_at hl 0 rfl) ?_
      obtain ⟨hg12, hk⟩ := gd_s hk
      cases (show some _ = some _ from hk)
      exact we_z hx hb hr hlocks hg12.1 hP rfl hS dX7_isBody_160 (by decide) (by decide)
    have lp6 : ∀ (n : Nat) (v9 : Int32) (v10 : Int32) (M11 : SS) (H : Heap) (locs : List Loc) (ls : Array Slot), f_X7_isBody_L40 p0 n v9 v10 M11 k6 = some (Mz, r) → wP Z (X, M11, O) H → va_S (wA Z s.heap.size) s.heap H locs → lv_has ls 8 [(3, .int v9), (2, .int v10), (0, .ref (Z.2.2 26 0)), (1, .int p0)] → W p l e (headSpec ws_X7_isBody rm_X7_isBody).room s m args below meth c H locs 0 0 (vx_MQ below (cQi Z (X, Mz, O) (.inl r) s.heap.size) (cX Z (X, Mz, O) (.inl r : Int32 ⊕ String) s.heap.size) args s 0 0 (wA Z s.heap.size)) (F0 m 40 ls []) := by
      intro n
      induction n with
      | zero =>
        intro v9 v10 M11 H locs ls hk
        rw [f_X7_isBody_L40] at hk
        exact nomatch (show none = some _ from hk)
      | succ n ih =>
        intro v9 v10 M11 H locs ls hk hP hS hl
        rw [f_X7_isBody_L40] at hk
        refine lv_iload_n hx hb dX7_isBody_40 rfl (lv_at hl 0 rfl) ?_
        refine lv_aload_n hx hb dX7_isBody_41 rfl (lv_at hl 2 rfl) ?_
        refine gf_RX7_60 hx hb hts hown hK hP (by decide) dX7_isBody_42 ?_
        refine lv_aload_n hx hb dX7_isBody_45 rfl (lv_at hl 2 rfl) ?_
        refine gf_RX7_81 hx hb hts hown hK hP (by decide) dX7_isBody_46 ?_
        refine lv_iload_n hx hb dX7_isBody_49 rfl (lv_at hl 3 rfl) ?_
        obtain ⟨hg13, hk⟩ := gd_s hk
        refine wa_iaload_40 hx hb hK hP (by decide) hg13 dX7_isBody_50 ?_
        obtain ⟨hg14, hk⟩ := gd_s hk
        refine wa_iaload_33 hx hb hK hP (by decide) hg14 dX7_isBody_51 ?_
        refine lv_icmp_ge (tgt := 159) hx hb dX7_isBody_52 (by decide) (fun cz15 => ?_) (fun cz15 => ?_)
        · have hk := it_t cz15 hk
          exact ex6 v10 M11 _ _ _ hk hP hS (lv_sub hl [1] rfl)
        · have hk := it_f cz15 hk
          refine lv_iload_n hx hb dX7_isBody_55 rfl (lv_at hl 1 rfl) ?_
          refine lv_if_eq (tgt := 159) hx hb dX7_isBody_56 (by decide) (fun cz16 => ?_) (fun cz16 => ?_)
          · have hk := it_t cz16 hk
            exact ex6 v10 M11 _ _ _ hk hP hS (lv_sub hl [1] rfl)
          · have hk := it_f cz16 hk
            refine lv_iconst (v := (5 : Int32)) hx hb dX7_isBody_59 (by decide) ?_
            refine lv_iload_n hx hb dX7_isBody_60 rfl (lv_at hl 3 rfl) ?_
            refine lv_imul hx hb dX7_isBody_61 ?_
            refine lv_iload_n hx hb dX7_isBody_62 rfl (lv_at hl 0 rfl) ?_
            refine lv_iadd hx hb dX7_isBody_63 ?_
            obtain ⟨v17, ev17, hk⟩ := lq_s hk
            refine W.eq (g2 := F0 m 64 ls [.int v17]) (by rw [ev17]) ?_
            refine lv_istore (lv' := [(4, .int v17), (3, .int v9), (2, .int v10), (0, .ref (Z.2.2 26 0)), (1, .int p0)]) hx hb dX7_isBody_64 hl (by decide) rfl (fun ls hl => ?_)
            refine lv_iconst (v := (5 : Int32)) hx hb dX7_isBody_66 (by decide) ?_
            refine lv_aload_n hx hb dX7_isBody_67 rfl (lv_at hl 3 rfl) ?_
            refine gf_RX7_81 hx hb hts hown hK hP (by decide) dX7_isBody_68 ?_
            refine lv_iload_n hx hb dX7_isBody_71 rfl (lv_at hl 4 rfl) ?_
            obtain ⟨hg18, hk⟩ := gd_s hk
            refine wa_iaload_40 hx hb hK hP (by decide) hg18 dX7_isBody_72 ?_
            refine lv_imul hx hb dX7_isBody_73 ?_
            refine lv_iload_n hx hb dX7_isBody_74 rfl (lv_at hl 1 rfl) ?_
            refine lv_iadd hx hb dX7_isBody_75 ?_
            obtain ⟨v19, ev19, hk⟩ := lq_s hk
            refine W.eq (g2 := F0 m 76 ls [.int v19]) (by rw [ev19]) ?_
            refine lv_istore (lv' := [(5, .int v19), (4, .int v17), (3, .int v9), (2, .int v10), (0, .ref (Z.2.2 26 0)), (1, .int p0)]) hx hb dX7_isBody_76 hl (by decide) rfl (fun ls hl => ?_)
            refine lv_aload_n hx hb dX7_isBody_78 rfl (lv_at hl 4 rfl) ?_
            refine gf_RX7_95 hx hb hts hown hK hP (by decide) dX7_isBody_79 ?_
            refine lv_iload hx hb dX7_isBody_82 (lv_at hl 1 rfl) ?_
            obtain ⟨hg20, hk⟩ := gd_s hk
            refine wa_iaload_44 hx hb hK hP (by decide) hg20 dX7_isBody_84 ?_
            refine lv_iconst (v := ((-1) : Int32)) hx hb dX7_isBody_85 (by decide) ?_
            have jn22 : ∀ (v21 : Int32) (H : Heap) (locs : List Loc) (ls : Array Slot), f_X7_isBody_J111 (f_X7_isBody_L40 p0 n) k6 M11 v19 v9 v17 v21 = some (Mz, r) → wP Z (X, M11, O) H → va_S (wA Z s.heap.size) s.heap H locs → lv_has ls 8 [(5, .int v19), (4, .int v17), (3, .int v9), (0, .ref (Z.2.2 26 0)), (1, .int p0)] → W p l e (headSpec ws_X7_isBody rm_X7_isBody).room s m args below meth c H locs 0 0 (vx_MQ below (cQi Z (X, Mz, O) (.inl r) s.heap.size) (cX Z (X, Mz, O) (.inl r : Int32 ⊕ String) s.heap.size) args s 0 0 (wA Z s.heap.size)) (F0 m 111 ls [.int v21]) := by
              intro v21 H locs ls hk hP hS hl
              unfold f_X7_isBody_J111 at hk
              refine lv_istore (lv' := [(6, .int v21), (5, .int v19), (4, .int v17), (3, .int v9), (0, .ref (Z.2.2 26 0)), (1, .int p0)]) hx hb dX7_isBody_111 hl (by decide) rfl (fun ls hl => ?_)
              refine lv_aload_n hx hb dX7_isBody_113 rfl (lv_at hl 4 rfl) ?_
              refine lv_bipush (v := (40 : Int32)) hx hb dX7_isBody_114 (by decide) ?_
              refine lv_iload hx hb dX7_isBody_116 (lv_at hl 1 rfl) ?_
              obtain ⟨M24, v23, hf25, hk⟩ := b1_s hk
              refine wc_iV0 (rest := []) (As := [.int (40 : Int32), .int v19]) ⟨hx, hb, hml, hown, hts⟩ (fun sz => k_X7_runs l hfl Z hZ X M11 O (40 : Int32) v19 M24 v23 hf25 sz) (cw_RX7_200 (args := args) (s := s) hts (Nat.le_of_ble_eq_true rfl) (Nat.le_of_ble_eq_true rfl)) hE hP hK hS (rv_26 hK hP (by decide)) rfl hl.1 rfl (Nat.le_of_ble_eq_true rfl) dX7_isBody_118 ⟨Nat.le_of_ble_eq_true rfl, Nat.le_of_ble_eq_true rfl⟩ (fun H locs hP hS => ?_)
              refine lv_istore (lv' := [(7, .int v23), (6, .int v21), (5, .int v19), (4, .int v17), (3, .int v9), (0, .ref (Z.2.2 26 0)), (1, .int p0)]) hx hb dX7_isBody_121 hl (by decide) rfl (fun ls hl => ?_)
              refine lv_iload hx hb dX7_isBody_123 (lv_at hl 1 rfl) ?_
              refine lv_if_eq (tgt := 147) hx hb dX7_isBody_125 (by decide) (fun cz26 => ?_) (fun cz26 => ?_)
              · have hk := it_t cz26 hk
                refine lv_iconst (v := (1 : Int32)) hx hb dX7_isBody_147 (by decide) ?_
                refine lv_goto (tgt := 152) hx hb dX7_isBody_148 (by decide) ?_
                refine lv_istore_n (lv' := [(2, .int (1 : Int32)), (7, .int v23), (6, .int v21), (5, .int v19), (4, .int v17), (3, .int v9), (0, .ref (Z.2.2 26 0)), (1, .int p0)]) hx hb dX7_isBody_152 rfl hl (by decide) rfl (fun ls hl => ?_)
                refine lv_iinc (v := (v9 + (1 : Int32))) (lv' := [(3, .int (v9 + (1 : Int32))), (2, .int (1 : Int32)), (7, .int v23), (6, .int v21), (5, .int v19), (4, .int v17), (0, .ref (Z.2.2 26 0)), (1, .int p0)]) hx hb dX7_isBody_153 hl (k := 5) rfl rfl (by decide) rfl (fun ls hl => ?_)
                refine lv_goto (tgt := 40) hx hb dX7_isBody_156 (by decide) ?_
                exact ih (v9 + (1 : Int32)) (1 : Int32) M24 _ _ _ hk hP hS (lv_sub hl [0, 1, 6, 7] rfl)
              · have hk := it_f cz26 hk
                refine lv_iload hx hb dX7_isBody_128 (lv_at hl 0 rfl) ?_
                refine lv_if_le (tgt := 151) hx hb dX7_isBody_130 (by decide) (fun cz27 => ?_) (fun cz27 => ?_)
                · have hk := it_t cz27 hk
                  refine lv_iconst (v := (0 : Int32)) hx hb dX7_isBody_151 (by decide) ?_
                  refine lv_istore_n (lv' := [(2, .int (0 : Int32)), (7, .int v23), (6, .int v21), (5, .int v19), (4, .int v17), (3, .int v9), (0, .ref (Z.2.2 26 0)), (1, .int p0)]) hx hb dX7_isBody_152 rfl hl (by decide) rfl (fun ls hl => ?_)
                  refine lv_iinc (v := (v9 + (1 : Int32))) (lv' := [(3, .int (v9 + (1 : Int32))), (2, .int (0 : Int32)), (7, .int v23), (6, .int v21), (5, .int v19), (4, .int v17), (0, .ref (Z.2.2 26 0)), (1, .int p0)]) hx hb dX7_isBody_153 hl (k := 5) rfl rfl (by decide) rfl (fun ls hl => ?_)
                  refine lv_goto (tgt := 40) hx hb dX7_isBody_156 (by decide) ?_
                  exact ih (v9 + (1 : Int32)) (0 : Int32) M24 _ _ _ hk hP hS (lv_sub hl [0, 1, 6, 7] rfl)
                · have hk := it_f cz27 hk
                  refine lv_aload_n hx hb dX7_isBody_133 rfl (lv_at hl 5 rfl) ?_
                  refine gf_RX7_134 hx hb hts hown hK hP (by decide) dX7_isBody_134 ?_
                  refine lv_aload_n hx hb dX7_isBody_137 rfl (lv_at hl 5 rfl) ?_
                  refine gf_RX7_95 hx hb hts hown hK hP (by decide) dX7_isBody_138 ?_
                  refine lv_iload hx hb dX7_isBody_141 (lv_at hl 3 rfl) ?_
                  obtain ⟨hg28, hk⟩ := gd_s hk
                  refine wa_iaload_44 hx hb hK hP (by decide) hg28 dX7_isBody_143 ?_
                  refine lv_icmp_ne (tgt := 151) hx hb dX7_isBody_144 (by decide) (fun cz29 => ?_) (fun cz29 => ?_)
                  · have hk := it_f cz29 hk
                    refine lv_iconst (v := (0 : Int32)) hx hb dX7_isBody_151 (by decide) ?_
                    refine lv_istore_n (lv' := [(2, .int (0 : Int32)), (7, .int v23), (6, .int v21), (5, .int v19), (4, .int v17), (3, .int v9), (0, .ref (Z.2.2 26 0)), (1, .int p0)]) hx hb dX7_isBody_152 rfl hl (by decide) rfl (fun ls hl => ?_)
                    refine lv_iinc (v := (v9 + (1 : Int32))) (lv' := [(3, .int (v9 + (1 : Int32))), (2, .int (0 : Int32)), (7, .int v23), (6, .int v21), (5, .int v19), (4, .int v17), (0, .ref (Z.2.2 26 0)), (1, .int p0)]) hx hb dX7_isBody_153 hl (k := 5) rfl rfl (by decide) rfl (fun ls hl => ?_)
                    refine lv_goto (tgt := 40) hx hb dX7_isBody_156 (by decide) ?_
                    exact ih (v9 + (1 : Int32)) (0 : Int32) M24 _ _ _ hk hP hS (lv_sub hl [0, 1, 6, 7] rfl)
                  · have hk := it_t cz29 hk
                    refine lv_iconst (v := (1 : Int32)) hx hb dX7_isBody_147 (by decide) ?_
                    refine lv_goto (tgt := 152) hx hb dX7_isBody_148 (by decide) ?_
                    refine lv_istore_n (lv' := [(2, .int (1 : Int32)), (7, .int v23), (6, .int v21), (5, .int v19), (4, .int v17), (3, .int v9), (0, .ref (Z.2.2 26 0)), (1, .int p0)]) hx hb dX7_isBody_152 rfl hl (by decide) rfl (fun ls hl => ?_)
                    refine lv_iinc (v := (v9 + (1 : Int32))) (lv' := [(3, .int (v9 + (1 : Int32))), (2, .int (1 : Int32)), (7, .int v23), (6, .int v21), (5, .int v19), (4, .int v17), (0, .ref (Z.2.2 26 0)), (1, .int p0)]) hx hb dX7_isBody_153 hl (k := 5) rfl rfl (by decide) rfl (fun ls hl => ?_)
                    refine lv_goto (tgt := 40) hx hb dX7_isBody_156 (by decide) ?_
                    exact ih (v9 + (1 : Int32)) (1 : Int32) M24 _ _ _ hk hP hS (lv_sub hl [0, 1, 6, 7] rfl)
            have jn30 : ∀ (H : Heap) (locs : List Loc) (ls : Array Slot), f_X7_isBody_J110 (f_X7_isBody_L40 p0 n) k6 M11 v19 v9 v17  = some (Mz, r) → wP Z (X, M11, O) H → va_S (wA Z s.heap.size) s.heap H locs → lv_has ls 8 [(5, .int v19), (4, .int v17), (3, .int v9), (0, .ref (Z.2.2 26 0)), (1, .int p0)] → W p l e (headSpec ws_X7_isBody rm_X7_isBody).room s m args below meth c H locs 0 0 (vx_MQ below (cQi Z (X, Mz, O) (.inl r) s.heap.size) (cX Z (X, Mz, O) (.inl r : Int32 ⊕ String) s.heap.size) args s 0 0 (wA Z s.heap.size)) (F0 m 110 ls []) := by
              intro  H locs ls hk hP hS hl
              unfold f_X7_isBody_J110 at hk
              refine lv_iconst (v := (0 : Int32)) hx hb dX7_isBody_110 (by decide) ?_
              exact jn22 (0 : Int32) _ _ _ hk hP hS (lv_sub hl [0, 1, 2, 3, 4] rfl)
            refine lv_icmp_eq (tgt := 110) hx hb dX7_isBody_86 (by decide) (fun cz31 => ?_) (fun cz31 => ?_)
            · have hk := it_t cz31 hk
              exact jn30 _ _ _ hk hP hS (lv_sub hl [0, 1, 2, 4, 5] rfl)
            · have hk := it_f cz31 hk
              refine lv_aload_n hx hb dX7_isBody_89 rfl (lv_at hl 4 rfl) ?_
              refine gf_RX7_98 hx hb hts hown hK hP (by decide) dX7_isBody_90 ?_
              refine lv_iload hx hb dX7_isBody_93 (lv_at hl 1 rfl) ?_
              obtain ⟨hg32, hk⟩ := gd_s hk
              refine wa_iaload_45 hx hb hK hP (by decide) hg32 dX7_isBody_95 ?_
              refine lv_aload_n hx hb dX7_isBody_96 rfl (lv_at hl 4 rfl) ?_
              refine gf_RX7_75 hx hb hts hown hK hP (by decide) dX7_isBody_97 ?_
              refine lv_iload hx hb dX7_isBody_100 (lv_at hl 0 rfl) ?_
              obtain ⟨hg33, hk⟩ := gd_s hk
              refine wa_iaload_38 hx hb hK hP (by decide) hg33 dX7_isBody_102 ?_
              refine lv_icmp_ne (tgt := 110) hx hb dX7_isBody_103 (by decide) (fun cz34 => ?_) (fun cz34 => ?_)
              · have hk := it_f cz34 hk
                exact jn30 _ _ _ hk hP hS (lv_sub hl [0, 1, 2, 4, 5] rfl)
              · have hk := it_t cz34 hk
                refine lv_iconst (v := (1 : Int32)) hx hb dX7_isBody_106 (by decide) ?_
                refine lv_goto (tgt := 111) hx hb dX7_isBody_107 (by decide) ?_
                exact jn22 (1 : Int32) _ _ _ hk hP hS (lv_sub hl [0, 1, 2, 4, 5] rfl)
    exact lp6 1000 (0 : Int32) v4 M _ _ _ hk hP hS (lv_sub hl [0, 1, 2, 3] rfl)
  have jn35 : ∀ (H : Heap) (locs : List Loc) (ls : Array Slot), f_X7_isBody_J36 p0 M  = some (Mz, r) → wP Z (X, M, O) H → va_S (wA Z s.heap.size) s.heap H locs → lv_has ls 8 [(0, .ref (Z.2.2 26 0)), (1, .int p0)] → W p l e (headSpec ws_X7_isBody rm_X7_isBody).room s m args below meth c H locs 0 0 (vx_MQ below (cQi Z (X, Mz, O) (.inl r) s.heap.size) (cX Z (X, Mz, O) (.inl r : Int32 ⊕ String) s.heap.size) args s 0 0 (wA Z s.heap.size)) (F0 m 36 ls []) := by
    intro  H locs ls hk hP hS hl
    unfold f_X7_isBody_J36 at hk
    refine lv_iconst (v := (0 : Int32)) hx hb dX7_isBody_36 (by decide) ?_
    exact jn5 (0 : Int32) _ _ _ hk hP hS (lv_sub hl [0, 1] rfl)
  refine lv_if_ne (tgt := 36) hx hb dX7_isBody_13 (by decide) (fun cz36 => ?_) (fun cz36 => ?_)
  · have hk := it_f cz36 hk
    exact jn35 _ _ _ hk hP hS (lv_sub hl [0, 1] rfl)
  · have hk := it_t cz36 hk
    refine lv_aload_n hx hb dX7_isBody_16 rfl (lv_at hl 0 rfl) ?_
    refine gf_RX7_48 hx hb hts hown hK hP (by decide) dX7_isBody_17 ?_
    refine lv_bipush (v := (40 : Int32)) hx hb dX7_isBody_20 (by decide) ?_
    refine wa_iaload_29 hx hb hK hP (by decide) (by unfold vp_in; decide) dX7_isBody_22 ?_
    refine lv_aload_n hx hb dX7_isBody_23 rfl (lv_at hl 0 rfl) ?_
    refine gf_RX7_48 hx hb hts hown hK hP (by decide) dX7_isBody_24 ?_
    refine lv_iload_n hx hb dX7_isBody_27 rfl (lv_at hl 1 rfl) ?_
    obtain ⟨hg37, hk⟩ := gd_s hk
    refine wa_iaload_29 hx hb hK hP (by decide) hg37 dX7_isBody_28 ?_
    refine lv_icmp_ne (tgt := 36) hx hb dX7_isBody_29 (by decide) (fun cz38 => ?_) (fun cz38 => ?_)
    · have hk := it_f cz38 hk
      exact jn35 _ _ _ hk hP hS (lv_sub hl [0, 1] rfl)
    · have hk := it_t cz38 hk
      refine lv_iconst (v := (1 : Int32)) hx hb dX7_isBody_32 (by decide) ?_
      refine lv_goto (tgt := 37) hx hb dX7_isBody_33 (by decide) ?_
      exact jn5 (1 : Int32) _ _ _ hk hP hS (lv_sub hl [0, 1] rfl)
set_option maxHeartbeats 4000000 in
set_option maxRecDepth 100000 in
theorem k_X7_answer (l : Launch) (hfl : l.stackTraces = false) (Z : ZT) (hZ : wD Z) (X M O : SS) (p0 : Int32) (p1 : Int32) (Mz : SS) (r : Int32) (hf : f_X7_answer M p0 p1 = some (Mz, r)) (sz : Nat) : vx_Met l yX7_answer ws_X7_answer rm_X7_answer (va_Pc [.ref (Z.2.2 26 0), .int p0, .int p1] (cP Z (X, M, O) sz)) (cQi Z (X, Mz, O) (.inl r) sz) (cX Z (X, Mz, O) (.inl r : Int32 ⊕ String) sz) 0 0 (wA Z sz) := by
  refine vx_ofW (cc := cX7_answer) (maxL := 3) (ret := (some .char)) (by decide) rfl ?_
  intro p e s m args below meth c s₁ B hml htab hv
  obtain ⟨hargs, hsz, hE, hP, hK⟩ := hv
  have hx := B.exec
  have hb := B.bytes
  have hr := B.returns
  have hts0 := atoms_spec (ws := ws_X7_answer) B.pre
  have hts : ∀ w ∈ lw_all, w.before args s = true := fun w h => hts0 w (List.mem_cons_of_mem _ h)
  have hown : s.vm.findClass RX7 = some m.cls := findClass_of_methodNamed B.named
  have hlocks := B.notSynchronized
  have hout9 : ∀ (pc9 : Nat), ∀ x ∈ c.exceptionTable.toList, covers x pc9 = false := fun _ x hx9 => (htab x hx9).elim
  subst hsz
  have hS : va_S (wA Z s.heap.size) s.heap s.heap [] := va_S.rf
  have hl := lv_entry ([.ref (Z.2.2 26 0), .int p0, .int p1]) (n := 3) (Nat.le_of_ble_eq_true rfl)
  have hen : entryFrame m args 3 = entryFrame m ([.ref (Z.2.2 26 0), .int p0, .int p1] : List Value).toArray 3 := by rw [hargs]
  rw [hen, lg_entry_eq]
  generalize (lg_sl ([.ref (Z.2.2 26 0), .int p0, .int p1]) ++ List.replicate (3 - (lg_sl ([.ref (Z.2.2 26 0), .int p0, .int p1])).length) Slot.unset).toArray = ls at hl ⊢
  have hl : lv_has ls 3 [(0, .ref (Z.2.2 26 0)), (1, .int p0), (2, .int p1)] := hl
  have hk := hf
  unfold f_X7_answer at hk
  refine lv_aload_n hx hb dX7_answer_0 rfl (lv_at hl 0 rfl) ?_
  refine lv_aload_n hx hb dX7_answer_1 rfl (lv_at hl 0 rfl) ?_
  refine lv_iload_n hx hb dX7_answer_2 rfl (lv_at hl 1 rfl) ?_
  obtain ⟨v1, hf2, hk⟩ := b0_s hk
  refine wc_iV0 (rest := [.ref (Z.2.2 26 0)]) (As := [.int p0]) ⟨hx, hb, hml, hown, hts⟩ (fun sz => k_X7_isMember l hfl Z hZ X M O p0 v1 hf2 sz) (cw_RX7_214 (args := args) (s := s) hts (Nat.le_of_ble_eq_true rfl) (Nat.le_of_ble_eq_true rfl)) hE hP hK hS (rv_26 hK hP (by decide)) rfl hl.1 rfl (Nat.le_of_ble_eq_true rfl) dX7_answer_3 ⟨Nat.le_of_ble_eq_true rfl, Nat.le_of_ble_eq_true rfl⟩ (fun H locs hP hS => ?_)
  have jn4 : ∀ (v3 : Int32) (H : Heap) (locs : List Loc) (ls : Array Slot), f_X7_answer_J46 M p1 p0 v3 = some (Mz, r) → wP Z (X, M, O) H → va_S (wA Z s.heap.size) s.heap H locs → lv_has ls 3 [(0, .ref (Z.2.2 26 0)), (1, .int p0), (2, .int p1)] → W p l e (headSpec ws_X7_answer rm_X7_answer).room s m args below meth c H locs 0 0 (vx_MQ below (cQi Z (X, Mz, O) (.inl r) s.heap.size) (cX Z (X, Mz, O) (.inl r : Int32 ⊕ String) s.heap.size) args s 0 0 (wA Z s.heap.size)) (F0 m 46 ls [.int v3, .ref (Z.2.2 26 0)]) := by
    intro v3 H locs ls hk hP hS hl
    unfold f_X7_answer_J46 at hk
    obtain ⟨M5, eM5, hk⟩ := lq_s hk
    refine pf_RX7_37 hx hb hts hown hZ hK hP hS (by decide) dX7_answer_46 (fun H locs hP hS => ?_)
    rw [← eM5] at hP
    refine lv_aload_n hx hb dX7_answer_49 rfl (lv_at hl 0 rfl) ?_
    refine gf_RX7_37 hx hb hts hown hK hP (by decide) dX7_answer_50 ?_
    refine lv_if_le (tgt := 58) hx hb dX7_answer_53 (by decide) (fun cz6 => ?_) (fun cz6 => ?_)
    · have hk := it_t cz6 hk
      refine lv_aload_n hx hb dX7_answer_58 rfl (lv_at hl 0 rfl) ?_
      refine lv_iload_n hx hb dX7_answer_59 rfl (lv_at hl 2 rfl) ?_
      obtain ⟨M8, v7, hf9, hk⟩ := b1_s hk
      refine wc_iV0 (rest := []) (As := [.int p1]) ⟨hx, hb, hml, hown, hts⟩ (fun sz => k_X7_isBody l hfl Z hZ X M5 O p1 M8 v7 hf9 sz) (cw_RX7_290 (args := args) (s := s) hts (Nat.le_of_ble_eq_true rfl) (Nat.le_of_ble_eq_true rfl)) hE hP hK hS (rv_26 hK hP (by decide)) rfl hl.1 rfl (Nat.le_of_ble_eq_true rfl) dX7_answer_60 ⟨Nat.le_of_ble_eq_true rfl, Nat.le_of_ble_eq_true rfl⟩ (fun H locs hP hS => ?_)
      refine lv_if_ne (tgt := 69) hx hb dX7_answer_63 (by decide) (fun cz10 => ?_) (fun cz10 => ?_)
      · have hk := it_f cz10 hk
        refine lv_aload_n hx hb dX7_answer_69 rfl (lv_at hl 0 rfl) ?_
        refine lv_bipush (v := (40 : Int32)) hx hb dX7_answer_70 (by decide) ?_
        refine lv_iload_n hx hb dX7_answer_72 rfl (lv_at hl 2 rfl) ?_
        obtain ⟨M12, v11, hf13, hk⟩ := b1_s hk
        refine wc_vV0 (rest := []) (As := [.int (40 : Int32), .int p1]) ⟨hx, hb, hml, hown, hts⟩ (fun sz => k_X7_copies l hfl Z hZ X M8 O (40 : Int32) p1 M12 v11 hf13 sz) (cw_RX7_217 (args := args) (s := s) hts (Nat.le_of_ble_eq_true rfl) (Nat.le_of_ble_eq_true rfl)) hE hP hK hS (rv_26 hK hP (by decide)) rfl hl.1 rfl (Nat.le_of_ble_eq_true rfl) dX7_answer_73 ⟨Nat.le_of_ble_eq_true rfl, Nat.le_of_ble_eq_true rfl⟩ (fun H locs hP hS => ?_)
        refine lv_aload_n hx hb dX7_answer_76 rfl (lv_at hl 0 rfl) ?_
        refine lv_iload_n hx hb dX7_answer_77 rfl (lv_at hl 1 rfl) ?_
        refine lv_iload_n hx hb dX7_answer_78 rfl (lv_at hl 2 rfl) ?_
        obtain ⟨M15, v14, hf16, hk⟩ := b1_s hk
        refine wc_iV0 (rest := []) (As := [.int p0, .int p1]) ⟨hx, hb, hml, hown, hts⟩ (fun sz => k_X7_closes l hfl Z hZ X M12 O p0 p1 M15 v14 hf16 sz) (cw_RX7_287 (args := args) (s := s) hts (Nat.le_of_ble_eq_true rfl) (Nat.le_of_ble_eq_true rfl)) hE hP hK hS (rv_26 hK hP (by decide)) rfl hl.1 rfl (Nat.le_of_ble_eq_true rfl) dX7_answer_79 ⟨Nat.le_of_ble_eq_true rfl, Nat.le_of_ble_eq_true rfl⟩ (fun H locs hP hS => ?_)
        obtain ⟨hg17, hk⟩ := gd_s hk
        cases (show some _ = some _ from hk)
        exact we_z hx hb hr hlocks hg17.1 hP rfl hS dX7_answer_82 (by decide) (by decide)
      · have hk := it_t cz10 hk
        refine lv_bipush (v := (45 : Int32)) hx hb dX7_answer_66 (by decide) ?_
        cases (show some _ = some _ from hk)
        exact we_z hx hb hr hlocks (show okc (45 : Int32) by unfold okc; decide).1 hP rfl hS dX7_answer_68 (by decide) (by decide)
    · have hk := it_f cz6 hk
      refine lv_iconst (v := (0 : Int32)) hx hb dX7_answer_56 (by decide) ?_
      cases (show some _ = some _ from hk)
      exact we_z hx hb hr hlocks (show okc (0 : Int32) by unfold okc; decide).1 hP rfl hS dX7_answer_57 (by decide) (by decide)
  have jn18 : ∀ (H : Heap) (locs : List Loc) (ls : Array Slot), f_X7_answer_J17 M p1 p0  = some (Mz, r) → wP Z (X, M, O) H → va_S (wA Z s.heap.size) s.heap H locs → lv_has ls 3 [(0, .ref (Z.2.2 26 0)), (1, .int p0), (2, .int p1)] → W p l e (headSpec ws_X7_answer rm_X7_answer).room s m args below meth c H locs 0 0 (vx_MQ below (cQi Z (X, Mz, O) (.inl r) s.heap.size) (cX Z (X, Mz, O) (.inl r : Int32 ⊕ String) s.heap.size) args s 0 0 (wA Z s.heap.size)) (F0 m 17 ls [.ref (Z.2.2 26 0)]) := by
    intro  H locs ls hk hP hS hl
    unfold f_X7_answer_J17 at hk
    refine lv_iconst (v := (1 : Int32)) hx hb dX7_answer_17 (by decide) ?_
    refine lv_goto (tgt := 46) hx hb dX7_answer_18 (by decide) ?_
    exact jn4 (1 : Int32) _ _ _ hk hP hS (lv_sub hl [0, 1, 2] rfl)
  refine lv_if_eq (tgt := 17) hx hb dX7_answer_6 (by decide) (fun cz19 => ?_) (fun cz19 => ?_)
  · have hk := it_t cz19 hk
    exact jn18 _ _ _ hk hP hS (lv_sub hl [0, 1, 2] rfl)
  · have hk := it_f cz19 hk
    refine lv_aload_n hx hb dX7_answer_9 rfl (lv_at hl 0 rfl) ?_
    refine lv_iload_n hx hb dX7_answer_10 rfl (lv_at hl 2 rfl) ?_
    obtain ⟨v20, hf21, hk⟩ := b0_s hk
    refine wc_iV0 (rest := [.ref (Z.2.2 26 0)]) (As := [.int p1]) ⟨hx, hb, hml, hown, hts⟩ (fun sz => k_X7_isWork l hfl Z hZ X M O p1 v20 hf21 sz) (cw_RX7_227 (args := args) (s := s) hts (Nat.le_of_ble_eq_true rfl) (Nat.le_of_ble_eq_true rfl)) hE hP hK hS (rv_26 hK hP (by decide)) rfl hl.1 rfl (Nat.le_of_ble_eq_true rfl) dX7_answer_11 ⟨Nat.le_of_ble_eq_true rfl, Nat.le_of_ble_eq_true rfl⟩ (fun H locs hP hS => ?_)
    refine lv_if_ne (tgt := 21) hx hb dX7_answer_14 (by decide) (fun cz22 => ?_) (fun cz22 => ?_)
    · have hk := it_f cz22 hk
      refine lv_aload_n hx hb dX7_answer_21 rfl (lv_at hl 0 rfl) ?_
      refine gf_RX7_88 hx hb hts hown hK hP (by decide) dX7_answer_22 ?_
      refine lv_iload_n hx hb dX7_answer_25 rfl (lv_at hl 2 rfl) ?_
      obtain ⟨hg23, hk⟩ := gd_s hk
      refine wa_caload_42 hx hb hK hP (by decide) hg23 dX7_answer_26 ?_
      refine lv_bipush (v := (99 : Int32)) hx hb dX7_answer_27 (by decide) ?_
      have jn24 : ∀ (H : Heap) (locs : List Loc) (ls : Array Slot), f_X7_answer_J41 M p1 p0  = some (Mz, r) → wP Z (X, M, O) H → va_S (wA Z s.heap.size) s.heap H locs → lv_has ls 3 [(0, .ref (Z.2.2 26 0)), (1, .int p0), (2, .int p1)] → W p l e (headSpec ws_X7_answer rm_X7_answer).room s m args below meth c H locs 0 0 (vx_MQ below (cQi Z (X, Mz, O) (.inl r) s.heap.size) (cX Z (X, Mz, O) (.inl r : Int32 ⊕ String) s.heap.size) args s 0 0 (wA Z s.heap.size)) (F0 m 41 ls [.ref (Z.2.2 26 0)]) := by
        intro  H locs ls hk hP hS hl
        unfold f_X7_answer_J41 at hk
        refine lv_iconst (v := (2 : Int32)) hx hb dX7_answer_41 (by decide) ?_
        refine lv_goto (tgt := 46) hx hb dX7_answer_42 (by decide) ?_
        exact jn4 (2 : Int32) _ _ _ hk hP hS (lv_sub hl [0, 1, 2] rfl)
      refine lv_icmp_ne (tgt := 41) hx hb dX7_answer_29 (by decide) (fun cz25 => ?_) (fun cz25 => ?_)
      · have hk := it_f cz25 hk
        exact jn24 _ _ _ hk hP hS (lv_sub hl [0, 1, 2] rfl)
      · have hk := it_t cz25 hk
        refine lv_aload_n hx hb dX7_answer_32 rfl (lv_at hl 0 rfl) ?_
        refine lv_bipush (v := (40 : Int32)) hx hb dX7_answer_33 (by decide) ?_
        obtain ⟨v26, hf27, hk⟩ := b0_s hk
        refine wc_iV0 (rest := [.ref (Z.2.2 26 0)]) (As := [.int (40 : Int32)]) ⟨hx, hb, hml, hown, hts⟩ (fun sz => k_X7_isWhole l hfl Z hZ X M O (40 : Int32) v26 hf27 sz) (cw_RX7_211 (args := args) (s := s) hts (Nat.le_of_ble_eq_true rfl) (Nat.le_of_ble_eq_true rfl)) hE hP hK hS (rv_26 hK hP (by decide)) rfl hl.1 rfl (Nat.le_of_ble_eq_true rfl) dX7_answer_35 ⟨Nat.le_of_ble_eq_true rfl, Nat.le_of_ble_eq_true rfl⟩ (fun H locs hP hS => ?_)
        refine lv_if_ne (tgt := 45) hx hb dX7_answer_38 (by decide) (fun cz28 => ?_) (fun cz28 => ?_)
        · have hk := it_f cz28 hk
          refine lv_iconst (v := (0 : Int32)) hx hb dX7_answer_45 (by decide) ?_
          exact jn4 (0 : Int32) _ _ _ hk hP hS (lv_sub hl [0, 1, 2] rfl)
        · have hk := it_t cz28 hk
          exact jn24 _ _ _ hk hP hS (lv_sub hl [0, 1, 2] rfl)
    · have hk := it_t cz22 hk
      exact jn18 _ _ _ hk hP hS (lv_sub hl [0, 1, 2] rfl)
set_option maxHeartbeats 4000000 in
set_option maxRecDepth 100000 in
theorem k_X7_open (l : Launch) (hfl : l.stackTraces = false) (Z : ZT) (hZ : wD Z) (X M O : SS) (p0 : Int32) (Mz : SS) (r : Int32) (hf : f_X7_open M p0 = some (Mz, r)) (sz : Nat) : vx_Met l yX7_open ws_X7_open rm_X7_open (va_Pc [.ref (Z.2.2 26 0), .int p0] (cP Z (X, M, O) sz)) (cQi Z (X, Mz, O) (.inl r) sz) (cX Z (X, Mz, O) (.inl r : Int32 ⊕ String) sz) 0 0 (wA Z sz) := by
  refine vx_ofW (cc := cX7_open) (maxL := 6) (ret := (some .int)) (by decide) rfl ?_
  intro p e s m args below meth c s₁ B hml htab hv
  obtain ⟨hargs, hsz, hE, hP, hK⟩ := hv
  have hx := B.exec
  have hb := B.bytes
  have hr := B.returns
  have hts0 := atoms_spec (ws := ws_X7_open) B.pre
  have hts : ∀ w ∈ lw_all, w.before args s = true := fun w h => hts0 w (List.mem_cons_of_mem _ h)
  have hown : s.vm.findClass RX7 = some m.cls := findClass_of_methodNamed B.named
  have hlocks := B.notSynchronized
  have hout9 : ∀ (pc9 : Nat), ∀ x ∈ c.exceptionTable.toList, covers x pc9 = false := fun _ x hx9 => (htab x hx9).elim
  subst hsz
  have hS : va_S (wA Z s.heap.size) s.heap s.heap [] := va_S.rf
  have hl := lv_entry ([.ref (Z.2.2 26 0), .int p0]) (n := 6) (Nat.le_of_ble_eq_true rfl)
  have hen : entryFrame m args 6 = entryFrame m ([.ref (Z.2.2 26 0), .int p0] : List Value).toArray 6 := by rw [hargs]
  rw [hen, lg_entry_eq]
  generalize (lg_sl ([.ref (Z.2.2 26 0), .int p0]) ++ List.replicate (6 - (lg_sl ([.ref (Z.2.2 26 0), .int p0])).length) Slot.unset).toArray = ls at hl ⊢
  have hl : lv_has ls 6 [(0, .ref (Z.2.2 26 0)), (1, .int p0)] := hl
  have hk := hf
  unfold f_X7_open at hk
  refine lv_iconst (v := (0 : Int32)) hx hb dX7_open_0 (by decide) ?_
  refine lv_istore_n (lv' := [(2, .int (0 : Int32)), (0, .ref (Z.2.2 26 0)), (1, .int p0)]) hx hb dX7_open_1 rfl hl (by decide) rfl (fun ls hl => ?_)
  obtain ⟨k1, hk1, hk⟩ := gn hk
  have ex1 : ∀ (H : Heap) (locs : List Loc) (ls : Array Slot), k1 () = some (Mz, r) → wP Z (X, M, O) H → va_S (wA Z s.heap.size) s.heap H locs → lv_has ls 6 [(0, .ref (Z.2.2 26 0))] → W p l e (headSpec ws_X7_open rm_X7_open).room s m args below meth c H locs 0 0 (vx_MQ below (cQi Z (X, Mz, O) (.inl r) s.heap.size) (cX Z (X, Mz, O) (.inl r : Int32 ⊕ String) s.heap.size) args s 0 0 (wA Z s.heap.size)) (F0 m 138 ls []) := by
    intro  H locs ls hk hP hS hl
    subst hk1
    refine lv_aload_n hx hb dX7_open_138 rfl (lv_at hl 0 rfl) ?_
    refine lv_iconst (v := (1 : Int32)) hx hb dX7_open_139 (by decide) ?_
    obtain ⟨M4, v3, hf5, hk⟩ := b1_s hk
    refine wc_iV0 (rest := []) (As := [.int (1 : Int32)]) ⟨hx, hb, hml, hown, hts⟩ (fun sz => k_X7_fails l hfl Z hZ X M O (1 : Int32) M4 v3 hf5 sz) (cw_RX7_165 (args := args) (s := s) hts (Nat.le_of_ble_eq_true rfl) (Nat.le_of_ble_eq_true rfl)) hE hP hK hS (rv_26 hK hP (by decide)) rfl hl.1 rfl (Nat.le_of_ble_eq_true rfl) dX7_open_140 ⟨Nat.le_of_ble_eq_true rfl, Nat.le_of_ble_eq_true rfl⟩ (fun H locs hP hS => ?_)
    cases (show some _ = some _ from hk)
    exact we_i hx hb hr hlocks hP rfl hS dX7_open_143 (by decide) (by decide)
  have lp1 : ∀ (n : Nat) (v2 : Int32) (H : Heap) (locs : List Loc) (ls : Array Slot), f_X7_open_L2 M p0 n v2 k1 = some (Mz, r) → wP Z (X, M, O) H → va_S (wA Z s.heap.size) s.heap H locs → lv_has ls 6 [(2, .int v2), (0, .ref (Z.2.2 26 0)), (1, .int p0)] → W p l e (headSpec ws_X7_open rm_X7_open).room s m args below meth c H locs 0 0 (vx_MQ below (cQi Z (X, Mz, O) (.inl r) s.heap.size) (cX Z (X, Mz, O) (.inl r : Int32 ⊕ String) s.heap.size) args s 0 0 (wA Z s.heap.size)) (F0 m 2 ls []) := by
    intro n
    induction n with
    | zero =>
      intro v2 H locs ls hk
      rw [f_X7_open_L2] at hk
      exact nomatch (show none = some _ from hk)
    | succ n ih =>
      intro v2 H locs ls hk hP hS hl
      rw [f_X7_open_L2] at hk
      refine lv_iload_n hx hb dX7_open_2 rfl (lv_at hl 0 rfl) ?_
      refine lv_aload_n hx hb dX7_open_3 rfl (lv_at hl 1 rfl) ?_
      refine gf_RX7_25 hx hb hts hown hK hP (by decide) dX7_open_4 ?_
      refine lv_icmp_ge (tgt := 138) hx hb dX7_open_7 (by decide) (fun cz6 => ?_) (fun cz6 => ?_)
      · have hk := it_t cz6 hk
        exact ex1 _ _ _ hk hP hS (lv_sub hl [1] rfl)
      · have hk := it_f cz6 hk
        refine lv_iconst (v := (0 : Int32)) hx hb dX7_open_10 (by decide) ?_
        refine lv_istore_n (lv' := [(3, .int (0 : Int32)), (2, .int v2), (0, .ref (Z.2.2 26 0)), (1, .int p0)]) hx hb dX7_open_11 rfl hl (by decide) rfl (fun ls hl => ?_)
        refine lv_iconst (v := (0 : Int32)) hx hb dX7_open_12 (by decide) ?_
        refine lv_istore (lv' := [(4, .int (0 : Int32)), (3, .int (0 : Int32)), (2, .int v2), (0, .ref (Z.2.2 26 0)), (1, .int p0)]) hx hb dX7_open_13 hl (by decide) rfl (fun ls hl => ?_)
        obtain ⟨k7, hk7, hk⟩ := gn hk
        have ex7 : ∀ (v8 : Int32) (H : Heap) (locs : List Loc) (ls : Array Slot), k7 v8 = some (Mz, r) → wP Z (X, M, O) H → va_S (wA Z s.heap.size) s.heap H locs → lv_has ls 6 [(3, .int v8), (2, .int v2), (0, .ref (Z.2.2 26 0)), (1, .int p0)] → W p l e (headSpec ws_X7_open rm_X7_open).room s m args below meth c H locs 0 0 (vx_MQ below (cQi Z (X, Mz, O) (.inl r) s.heap.size) (cX Z (X, Mz, O) (.inl r : Int32 ⊕ String) s.heap.size) args s 0 0 (wA Z s.heap.size)) (F0 m 110 ls []) := by
          intro v8 H locs ls hk hP hS hl
          subst hk7
          refine lv_aload_n hx hb dX7_open_110 rfl (lv_at hl 2 rfl) ?_
          refine gf_RX7_88 hx hb hts hown hK hP (by decide) dX7_open_111 ?_
          refine lv_iload_n hx hb dX7_open_114 rfl (lv_at hl 1 rfl) ?_
          obtain ⟨hg11, hk⟩ := gd_s hk
          refine wa_caload_42 hx hb hK hP (by decide) hg11 dX7_open_115 ?_
          refine lv_bipush (v := (99 : Int32)) hx hb dX7_open_116 (by decide) ?_
          refine lv_icmp_ne (tgt := 132) hx hb dX7_open_118 (by decide) (fun cz12 => ?_) (fun cz12 => ?_)
          · have hk := it_f cz12 hk
            refine lv_iinc (v := (v2 + (1 : Int32))) (lv' := [(2, .int (v2 + (1 : Int32))), (3, .int v8), (0, .ref (Z.2.2 26 0)), (1, .int p0)]) hx hb dX7_open_132 hl (k := 1) rfl rfl (by decide) rfl (fun ls hl => ?_)
            refine lv_goto (tgt := 2) hx hb dX7_open_135 (by decide) ?_
            exact ih (v2 + (1 : Int32)) _ _ _ hk hP hS (lv_sub hl [0, 2, 3] rfl)
          · have hk := it_t cz12 hk
            refine lv_iload_n hx hb dX7_open_121 rfl (lv_at hl 0 rfl) ?_
            refine lv_iload_n hx hb dX7_open_122 rfl (lv_at hl 3 rfl) ?_
            refine lv_icmp_ne (tgt := 132) hx hb dX7_open_123 (by decide) (fun cz13 => ?_) (fun cz13 => ?_)
            · have hk := it_f cz13 hk
              refine lv_iinc (v := (v2 + (1 : Int32))) (lv' := [(2, .int (v2 + (1 : Int32))), (3, .int v8), (0, .ref (Z.2.2 26 0)), (1, .int p0)]) hx hb dX7_open_132 hl (k := 1) rfl rfl (by decide) rfl (fun ls hl => ?_)
              refine lv_goto (tgt := 2) hx hb dX7_open_135 (by decide) ?_
              exact ih (v2 + (1 : Int32)) _ _ _ hk hP hS (lv_sub hl [0, 2, 3] rfl)
            · have hk := it_t cz13 hk
              refine lv_aload_n hx hb dX7_open_126 rfl (lv_at hl 2 rfl) ?_
              refine lv_iload_n hx hb dX7_open_127 rfl (lv_at hl 1 rfl) ?_
              obtain ⟨M15, v14, hf16, hk⟩ := b1_s hk
              refine wc_iV0 (rest := []) (As := [.int v2]) ⟨hx, hb, hml, hown, hts⟩ (fun sz => k_X7_tells l hfl Z hZ X M O v2 M15 v14 hf16 sz) (cw_RX7_169 (args := args) (s := s) hts (Nat.le_of_ble_eq_true rfl) (Nat.le_of_ble_eq_true rfl)) hE hP hK hS (rv_26 hK hP (by decide)) rfl hl.1 rfl (Nat.le_of_ble_eq_true rfl) dX7_open_128 ⟨Nat.le_of_ble_eq_true rfl, Nat.le_of_ble_eq_true rfl⟩ (fun H locs hP hS => ?_)
              cases (show some _ = some _ from hk)
              exact we_i hx hb hr hlocks hP rfl hS dX7_open_131 (by decide) (by decide)
        have lp7 : ∀ (n : Nat) (v9 : Int32) (v10 : Int32) (H : Heap) (locs : List Loc) (ls : Array Slot), f_X7_open_L15 M v2 n v9 v10 k7 = some (Mz, r) → wP Z (X, M, O) H → va_S (wA Z s.heap.size) s.heap H locs → lv_has ls 6 [(4, .int v9), (3, .int v10), (2, .int v2), (0, .ref (Z.2.2 26 0)), (1, .int p0)] → W p l e (headSpec ws_X7_open rm_X7_open).room s m args below meth c H locs 0 0 (vx_MQ below (cQi Z (X, Mz, O) (.inl r) s.heap.size) (cX Z (X, Mz, O) (.inl r : Int32 ⊕ String) s.heap.size) args s 0 0 (wA Z s.heap.size)) (F0 m 15 ls []) := by
          intro n
          induction n with
          | zero =>
            intro v9 v10 H locs ls hk
            rw [f_X7_open_L15] at hk
            exact nomatch (show none = some _ from hk)
          | succ n ih =>
            intro v9 v10 H locs ls hk hP hS hl
            rw [f_X7_open_L15] at hk
            refine lv_iload hx hb dX7_open_15 (lv_at hl 0 rfl) ?_
            refine lv_aload_n hx hb dX7_open_17 rfl (lv_at hl 3 rfl) ?_
            refine gf_RX7_25 hx hb hts hown hK hP (by decide) dX7_open_18 ?_
            refine lv_icmp_ge (tgt := 110) hx hb dX7_open_21 (by decide) (fun cz17 => ?_) (fun cz17 => ?_)
            · have hk := it_t cz17 hk
              exact ex7 v10 _ _ _ hk hP hS (lv_sub hl [1, 2, 3, 4] rfl)
            · have hk := it_f cz17 hk
              refine lv_aload_n hx hb dX7_open_24 rfl (lv_at hl 3 rfl) ?_
              refine gf_RX7_110 hx hb hts hown hK hP (by decide) dX7_open_25 ?_
              refine lv_iload hx hb dX7_open_28 (lv_at hl 0 rfl) ?_
              obtain ⟨hg18, hk⟩ := gd_s hk
              refine wa_iaload_49 hx hb hK hP (by decide) hg18 dX7_open_30 ?_
              refine lv_aload_n hx hb dX7_open_31 rfl (lv_at hl 3 rfl) ?_
              refine gf_RX7_110 hx hb hts hown hK hP (by decide) dX7_open_32 ?_
              refine lv_iload_n hx hb dX7_open_35 rfl (lv_at hl 2 rfl) ?_
              obtain ⟨hg19, hk⟩ := gd_s hk
              refine wa_iaload_49 hx hb hK hP (by decide) hg19 dX7_open_36 ?_
              have jn21 : ∀ (v20 : Int32) (H : Heap) (locs : List Loc) (ls : Array Slot), f_X7_open_J77 (f_X7_open_L15 M v2 n) k7 v9 M v10 v20 = some (Mz, r) → wP Z (X, M, O) H → va_S (wA Z s.heap.size) s.heap H locs → lv_has ls 6 [(4, .int v9), (3, .int v10), (2, .int v2), (0, .ref (Z.2.2 26 0)), (1, .int p0)] → W p l e (headSpec ws_X7_open rm_X7_open).room s m args below meth c H locs 0 0 (vx_MQ below (cQi Z (X, Mz, O) (.inl r) s.heap.size) (cX Z (X, Mz, O) (.inl r : Int32 ⊕ String) s.heap.size) args s 0 0 (wA Z s.heap.size)) (F0 m 77 ls [.int v20]) := by
                intro v20 H locs ls hk hP hS hl
                unfold f_X7_open_J77 at hk
                refine lv_istore (lv' := [(5, .int v20), (4, .int v9), (3, .int v10), (2, .int v2), (0, .ref (Z.2.2 26 0)), (1, .int p0)]) hx hb dX7_open_77 hl (by decide) rfl (fun ls hl => ?_)
                refine lv_iload_n hx hb dX7_open_79 rfl (lv_at hl 2 rfl) ?_
                refine lv_aload_n hx hb dX7_open_80 rfl (lv_at hl 4 rfl) ?_
                refine gf_RX7_88 hx hb hts hown hK hP (by decide) dX7_open_81 ?_
                refine lv_iload hx hb dX7_open_84 (lv_at hl 1 rfl) ?_
                obtain ⟨hg22, hk⟩ := gd_s hk
                refine wa_caload_42 hx hb hK hP (by decide) hg22 dX7_open_86 ?_
                refine lv_bipush (v := (99 : Int32)) hx hb dX7_open_87 (by decide) ?_
                refine lv_icmp_ne (tgt := 101) hx hb dX7_open_89 (by decide) (fun cz23 => ?_) (fun cz23 => ?_)
                · have hk := it_f cz23 hk
                  refine lv_iconst (v := (0 : Int32)) hx hb dX7_open_101 (by decide) ?_
                  refine lv_iadd hx hb dX7_open_102 ?_
                  obtain ⟨v24, ev24, hk⟩ := lq_s hk
                  refine W.eq (g2 := F0 m 103 ls [.int v24]) (by rw [ev24]) ?_
                  refine lv_istore_n (lv' := [(3, .int v24), (5, .int v20), (4, .int v9), (2, .int v2), (0, .ref (Z.2.2 26 0)), (1, .int p0)]) hx hb dX7_open_103 rfl hl (by decide) rfl (fun ls hl => ?_)
                  refine lv_iinc (v := (v9 + (1 : Int32))) (lv' := [(4, .int (v9 + (1 : Int32))), (3, .int v24), (5, .int v20), (2, .int v2), (0, .ref (Z.2.2 26 0)), (1, .int p0)]) hx hb dX7_open_104 hl (k := 2) rfl rfl (by decide) rfl (fun ls hl => ?_)
                  refine lv_goto (tgt := 15) hx hb dX7_open_107 (by decide) ?_
                  exact ih (v9 + (1 : Int32)) v24 _ _ _ hk hP hS (lv_sub hl [0, 1, 3, 4, 5] rfl)
                · have hk := it_t cz23 hk
                  refine lv_iload hx hb dX7_open_92 (lv_at hl 0 rfl) ?_
                  refine lv_if_eq (tgt := 101) hx hb dX7_open_94 (by decide) (fun cz25 => ?_) (fun cz25 => ?_)
                  · have hk := it_t cz25 hk
                    refine lv_iconst (v := (0 : Int32)) hx hb dX7_open_101 (by decide) ?_
                    refine lv_iadd hx hb dX7_open_102 ?_
                    obtain ⟨v26, ev26, hk⟩ := lq_s hk
                    refine W.eq (g2 := F0 m 103 ls [.int v26]) (by rw [ev26]) ?_
                    refine lv_istore_n (lv' := [(3, .int v26), (5, .int v20), (4, .int v9), (2, .int v2), (0, .ref (Z.2.2 26 0)), (1, .int p0)]) hx hb dX7_open_103 rfl hl (by decide) rfl (fun ls hl => ?_)
                    refine lv_iinc (v := (v9 + (1 : Int32))) (lv' := [(4, .int (v9 + (1 : Int32))), (3, .int v26), (5, .int v20), (2, .int v2), (0, .ref (Z.2.2 26 0)), (1, .int p0)]) hx hb dX7_open_104 hl (k := 2) rfl rfl (by decide) rfl (fun ls hl => ?_)
                    refine lv_goto (tgt := 15) hx hb dX7_open_107 (by decide) ?_
                    exact ih (v9 + (1 : Int32)) v26 _ _ _ hk hP hS (lv_sub hl [0, 1, 3, 4, 5] rfl)
                  · have hk := it_f cz25 hk
                    refine lv_iconst (v := (1 : Int32)) hx hb dX7_open_97 (by decide) ?_
                    refine lv_goto (tgt := 102) hx hb dX7_open_98 (by decide) ?_
                    refine lv_iadd hx hb dX7_open_102 ?_
                    obtain ⟨v27, ev27, hk⟩ := lq_s hk
                    refine W.eq (g2 := F0 m 103 ls [.int v27]) (by rw [ev27]) ?_
                    refine lv_istore_n (lv' := [(3, .int v27), (5, .int v20), (4, .int v9), (2, .int v2), (0, .ref (Z.2.2 26 0)), (1, .int p0)]) hx hb dX7_open_103 rfl hl (by decide) rfl (fun ls hl => ?_)
                    refine lv_iinc (v := (v9 + (1 : Int32))) (lv' := [(4, .int (v9 + (1 : Int32))), (3, .int v27), (5, .int v20), (2, .int v2), (0, .ref (Z.2.2 26 0)), (1, .int p0)]) hx hb dX7_open_104 hl (k := 2) rfl rfl (by decide) rfl (fun ls hl => ?_)
                    refine lv_goto (tgt := 15) hx hb dX7_open_107 (by decide) ?_
                    exact ih (v9 + (1 : Int32)) v27 _ _ _ hk hP hS (lv_sub hl [0, 1, 3, 4, 5] rfl)
              have jn28 : ∀ (H : Heap) (locs : List Loc) (ls : Array Slot), f_X7_open_J72 (f_X7_open_L15 M v2 n) k7 v9 M v10  = some (Mz, r) → wP Z (X, M, O) H → va_S (wA Z s.heap.size) s.heap H locs → lv_has ls 6 [(4, .int v9), (3, .int v10), (2, .int v2), (0, .ref (Z.2.2 26 0)), (1, .int p0)] → W p l e (headSpec ws_X7_open rm_X7_open).room s m args below meth c H locs 0 0 (vx_MQ below (cQi Z (X, Mz, O) (.inl r) s.heap.size) (cX Z (X, Mz, O) (.inl r : Int32 ⊕ String) s.heap.size) args s 0 0 (wA Z s.heap.size)) (F0 m 72 ls []) := by
                intro  H locs ls hk hP hS hl
                unfold f_X7_open_J72 at hk
                refine lv_iconst (v := (1 : Int32)) hx hb dX7_open_72 (by decide) ?_
                refine lv_goto (tgt := 77) hx hb dX7_open_73 (by decide) ?_
                exact jn21 (1 : Int32) _ _ _ hk hP hS (lv_sub hl [0, 1, 2, 3, 4] rfl)
              refine lv_icmp_lt (tgt := 72) hx hb dX7_open_37 (by decide) (fun cz29 => ?_) (fun cz29 => ?_)
              · have hk := it_t cz29 hk
                exact jn28 _ _ _ hk hP hS (lv_sub hl [0, 1, 2, 3, 4] rfl)
              · have hk := it_f cz29 hk
                refine lv_aload_n hx hb dX7_open_40 rfl (lv_at hl 3 rfl) ?_
                refine gf_RX7_110 hx hb hts hown hK hP (by decide) dX7_open_41 ?_
                refine lv_iload hx hb dX7_open_44 (lv_at hl 0 rfl) ?_
                obtain ⟨hg30, hk⟩ := gd_s hk
                refine wa_iaload_49 hx hb hK hP (by decide) hg30 dX7_open_46 ?_
                refine lv_aload_n hx hb dX7_open_47 rfl (lv_at hl 3 rfl) ?_
                refine gf_RX7_110 hx hb hts hown hK hP (by decide) dX7_open_48 ?_
                refine lv_iload_n hx hb dX7_open_51 rfl (lv_at hl 2 rfl) ?_
                obtain ⟨hg31, hk⟩ := gd_s hk
                refine wa_iaload_49 hx hb hK hP (by decide) hg31 dX7_open_52 ?_
                have jn32 : ∀ (H : Heap) (locs : List Loc) (ls : Array Slot), f_X7_open_J76 (f_X7_open_L15 M v2 n) k7 v9 M v10  = some (Mz, r) → wP Z (X, M, O) H → va_S (wA Z s.heap.size) s.heap H locs → lv_has ls 6 [(4, .int v9), (3, .int v10), (2, .int v2), (0, .ref (Z.2.2 26 0)), (1, .int p0)] → W p l e (headSpec ws_X7_open rm_X7_open).room s m args below meth c H locs 0 0 (vx_MQ below (cQi Z (X, Mz, O) (.inl r) s.heap.size) (cX Z (X, Mz, O) (.inl r : Int32 ⊕ String) s.heap.size) args s 0 0 (wA Z s.heap.size)) (F0 m 76 ls []) := by
                  intro  H locs ls hk hP hS hl
                  unfold f_X7_open_J76 at hk
                  refine lv_iconst (v := (0 : Int32)) hx hb dX7_open_76 (by decide) ?_
                  exact jn21 (0 : Int32) _ _ _ hk hP hS (lv_sub hl [0, 1, 2, 3, 4] rfl)
                refine lv_icmp_ne (tgt := 76) hx hb dX7_open_53 (by decide) (fun cz33 => ?_) (fun cz33 => ?_)
                · have hk := it_f cz33 hk
                  exact jn32 _ _ _ hk hP hS (lv_sub hl [0, 1, 2, 3, 4] rfl)
                · have hk := it_t cz33 hk
                  refine lv_aload_n hx hb dX7_open_56 rfl (lv_at hl 3 rfl) ?_
                  refine gf_RX7_113 hx hb hts hown hK hP (by decide) dX7_open_57 ?_
                  refine lv_iload hx hb dX7_open_60 (lv_at hl 0 rfl) ?_
                  obtain ⟨hg34, hk⟩ := gd_s hk
                  refine wa_iaload_50 hx hb hK hP (by decide) hg34 dX7_open_62 ?_
                  refine lv_aload_n hx hb dX7_open_63 rfl (lv_at hl 3 rfl) ?_
                  refine gf_RX7_113 hx hb hts hown hK hP (by decide) dX7_open_64 ?_
                  refine lv_iload_n hx hb dX7_open_67 rfl (lv_at hl 2 rfl) ?_
                  obtain ⟨hg35, hk⟩ := gd_s hk
                  refine wa_iaload_50 hx hb hK hP (by decide) hg35 dX7_open_68 ?_
                  refine lv_icmp_ge (tgt := 76) hx hb dX7_open_69 (by decide) (fun cz36 => ?_) (fun cz36 => ?_)
                  · have hk := it_t cz36 hk
                    exact jn32 _ _ _ hk hP hS (lv_sub hl [0, 1, 2, 3, 4] rfl)
                  · have hk := it_f cz36 hk
                    exact jn28 _ _ _ hk hP hS (lv_sub hl [0, 1, 2, 3, 4] rfl)
        exact lp7 1000 (0 : Int32) (0 : Int32) _ _ _ hk hP hS (lv_sub hl [0, 1, 2, 3, 4] rfl)
  exact lp1 1000 (0 : Int32) _ _ _ hk hP hS (lv_sub hl [0, 1, 2] rfl)
set_option maxHeartbeats 4000000 in
set_option maxRecDepth 100000 in
theorem k_X7_left (l : Launch) (hfl : l.stackTraces = false) (Z : ZT) (hZ : wD Z) (X M O : SS) (p0 : Int32) (Mz : SS) (r : Int32) (hf : f_X7_left M p0 = some (Mz, r)) (sz : Nat) : vx_Met l yX7_left ws_X7_left rm_X7_left (va_Pc [.ref (Z.2.2 26 0), .int p0] (cP Z (X, M, O) sz)) (cQi Z (X, Mz, O) (.inl r) sz) (cX Z (X, Mz, O) (.inl r : Int32 ⊕ String) sz) 0 0 (wA Z sz) := by
  refine vx_ofW (cc := cX7_left) (maxL := 2) (ret := (some .int)) (by decide) rfl ?_
  intro p e s m args below meth c s₁ B hml htab hv
  obtain ⟨hargs, hsz, hE, hP, hK⟩ := hv
  have hx := B.exec
  have hb := B.bytes
  have hr := B.returns
  have hts0 := atoms_spec (ws := ws_X7_left) B.pre
  have hts : ∀ w ∈ lw_all, w.before args s = true := fun w h => hts0 w (List.mem_cons_of_mem _ h)
  have hown : s.vm.findClass RX7 = some m.cls := findClass_of_methodNamed B.named
  have hlocks := B.notSynchronized
  have hout9 : ∀ (pc9 : Nat), ∀ x ∈ c.exceptionTable.toList, covers x pc9 = false := fun _ x hx9 => (htab x hx9).elim
  subst hsz
  have hS : va_S (wA Z s.heap.size) s.heap s.heap [] := va_S.rf
  have hl := lv_entry ([.ref (Z.2.2 26 0), .int p0]) (n := 2) (Nat.le_of_ble_eq_true rfl)
  have hen : entryFrame m args 2 = entryFrame m ([.ref (Z.2.2 26 0), .int p0] : List Value).toArray 2 := by rw [hargs]
  rw [hen, lg_entry_eq]
  generalize (lg_sl ([.ref (Z.2.2 26 0), .int p0]) ++ List.replicate (2 - (lg_sl ([.ref (Z.2.2 26 0), .int p0])).length) Slot.unset).toArray = ls at hl ⊢
  have hl : lv_has ls 2 [(0, .ref (Z.2.2 26 0)), (1, .int p0)] := hl
  have hk := hf
  unfold f_X7_left at hk
  refine lv_aload_n hx hb dX7_left_0 rfl (lv_at hl 0 rfl) ?_
  refine lv_iload_n hx hb dX7_left_1 rfl (lv_at hl 1 rfl) ?_
  obtain ⟨v1, hf2, hk⟩ := b0_s hk
  refine wc_iV0 (rest := []) (As := [.int p0]) ⟨hx, hb, hml, hown, hts⟩ (fun sz => k_X7_isWork l hfl Z hZ X M O p0 v1 hf2 sz) (cw_RX7_227 (args := args) (s := s) hts (Nat.le_of_ble_eq_true rfl) (Nat.le_of_ble_eq_true rfl)) hE hP hK hS (rv_26 hK hP (by decide)) rfl hl.1 rfl (Nat.le_of_ble_eq_true rfl) dX7_left_2 ⟨Nat.le_of_ble_eq_true rfl, Nat.le_of_ble_eq_true rfl⟩ (fun H locs hP hS => ?_)
  refine lv_if_ne (tgt := 14) hx hb dX7_left_5 (by decide) (fun cz3 => ?_) (fun cz3 => ?_)
  · have hk := it_f cz3 hk
    refine lv_aload_n hx hb dX7_left_14 rfl (lv_at hl 0 rfl) ?_
    refine gf_RX7_88 hx hb hts hown hK hP (by decide) dX7_left_15 ?_
    refine lv_iload_n hx hb dX7_left_18 rfl (lv_at hl 1 rfl) ?_
    obtain ⟨hg4, hk⟩ := gd_s hk
    refine wa_caload_42 hx hb hK hP (by decide) hg4 dX7_left_19 ?_
    refine lv_bipush (v := (99 : Int32)) hx hb dX7_left_20 (by decide) ?_
    refine lv_icmp_ne (tgt := 38) hx hb dX7_left_22 (by decide) (fun cz5 => ?_) (fun cz5 => ?_)
    · have hk := it_f cz5 hk
      refine lv_aload_n hx hb dX7_left_38 rfl (lv_at hl 0 rfl) ?_
      refine lv_iconst (v := (2 : Int32)) hx hb dX7_left_39 (by decide) ?_
      obtain ⟨M7, v6, hf8, hk⟩ := b1_s hk
      refine wc_iV0 (rest := []) (As := [.int (2 : Int32)]) ⟨hx, hb, hml, hown, hts⟩ (fun sz => k_X7_fails l hfl Z hZ X M O (2 : Int32) M7 v6 hf8 sz) (cw_RX7_165 (args := args) (s := s) hts (Nat.le_of_ble_eq_true rfl) (Nat.le_of_ble_eq_true rfl)) hE hP hK hS (rv_26 hK hP (by decide)) rfl hl.1 rfl (Nat.le_of_ble_eq_true rfl) dX7_left_40 ⟨Nat.le_of_ble_eq_true rfl, Nat.le_of_ble_eq_true rfl⟩ (fun H locs hP hS => ?_)
      cases (show some _ = some _ from hk)
      exact we_i hx hb hr hlocks hP rfl hS dX7_left_43 (by decide) (by decide)
    · have hk := it_t cz5 hk
      refine lv_aload_n hx hb dX7_left_25 rfl (lv_at hl 0 rfl) ?_
      refine lv_aload_n hx hb dX7_left_26 rfl (lv_at hl 0 rfl) ?_
      refine gf_RX7_110 hx hb hts hown hK hP (by decide) dX7_left_27 ?_
      refine lv_iload_n hx hb dX7_left_30 rfl (lv_at hl 1 rfl) ?_
      obtain ⟨hg9, hk⟩ := gd_s hk
      refine wa_iaload_49 hx hb hK hP (by decide) hg9 dX7_left_31 ?_
      obtain ⟨M11, v10, hf12, hk⟩ := b1_s hk
      refine wc_iV0 (rest := []) (As := [.int (M.1 49 0 (p0).toNatClampNeg)]) ⟨hx, hb, hml, hown, hts⟩ (fun sz => k_X7_tells l hfl Z hZ X M O (M.1 49 0 (p0).toNatClampNeg) M11 v10 hf12 sz) (cw_RX7_169 (args := args) (s := s) hts (Nat.le_of_ble_eq_true rfl) (Nat.le_of_ble_eq_true rfl)) hE hP hK hS (rv_26 hK hP (by decide)) rfl hl.1 rfl (Nat.le_of_ble_eq_true rfl) dX7_left_32 ⟨Nat.le_of_ble_eq_true rfl, Nat.le_of_ble_eq_true rfl⟩ (fun H locs hP hS => ?_)
      refine lv_goto (tgt := 43) hx hb dX7_left_35 (by decide) ?_
      cases (show some _ = some _ from hk)
      exact we_i hx hb hr hlocks hP rfl hS dX7_left_43 (by decide) (by decide)
  · have hk := it_t cz3 hk
    refine lv_aload_n hx hb dX7_left_8 rfl (lv_at hl 0 rfl) ?_
    refine lv_iconst (v := (1 : Int32)) hx hb dX7_left_9 (by decide) ?_
    obtain ⟨M14, v13, hf15, hk⟩ := b1_s hk
    refine wc_iV0 (rest := []) (As := [.int (1 : Int32)]) ⟨hx, hb, hml, hown, hts⟩ (fun sz => k_X7_fails l hfl Z hZ X M O (1 : Int32) M14 v13 hf15 sz) (cw_RX7_165 (args := args) (s := s) hts (Nat.le_of_ble_eq_true rfl) (Nat.le_of_ble_eq_true rfl)) hE hP hK hS (rv_26 hK hP (by decide)) rfl hl.1 rfl (Nat.le_of_ble_eq_true rfl) dX7_left_10 ⟨Nat.le_of_ble_eq_true rfl, Nat.le_of_ble_eq_true rfl⟩ (fun H locs hP hS => ?_)
    cases (show some _ = some _ from hk)
    exact we_i hx hb hr hlocks hP rfl hS dX7_left_13 (by decide) (by decide)
set_option maxHeartbeats 4000000 in
set_option maxRecDepth 100000 in
theorem k_X7_days (l : Launch) (hfl : l.stackTraces = false) (Z : ZT) (hZ : wD Z) (X M O : SS) (p0 : Int32) (Mz : SS) (r : Int32) (hf : f_X7_days M p0 = some (Mz, r)) (sz : Nat) : vx_Met l yX7_days ws_X7_days rm_X7_days (va_Pc [.ref (Z.2.2 26 0), .int p0] (cP Z (X, M, O) sz)) (cQi Z (X, Mz, O) (.inl r) sz) (cX Z (X, Mz, O) (.inl r : Int32 ⊕ String) sz) 0 0 (wA Z sz) := by
  refine vx_ofW (cc := cX7_days) (maxL := 4) (ret := (some .int)) (by decide) rfl ?_
  intro p e s m args below meth c s₁ B hml htab hv
  obtain ⟨hargs, hsz, hE, hP, hK⟩ := hv
  have hx := B.exec
  have hb := B.bytes
  have hr := B.returns
  have hts0 := atoms_spec (ws := ws_X7_days) B.pre
  have hts : ∀ w ∈ lw_all, w.before args s = true := fun w h => hts0 w (List.mem_cons_of_mem _ h)
  have hown : s.vm.findClass RX7 = some m.cls := findClass_of_methodNamed B.named
  have hlocks := B.notSynchronized
  have hout9 : ∀ (pc9 : Nat), ∀ x ∈ c.exceptionTable.toList, covers x pc9 = false := fun _ x hx9 => (htab x hx9).elim
  subst hsz
  have hS : va_S (wA Z s.heap.size) s.heap s.heap [] := va_S.rf
  have hl := lv_entry ([.ref (Z.2.2 26 0), .int p0]) (n := 4) (Nat.le_of_ble_eq_true rfl)
  have hen : entryFrame m args 4 = entryFrame m ([.ref (Z.2.2 26 0), .int p0] : List Value).toArray 4 := by rw [hargs]
  rw [hen, lg_entry_eq]
  generalize (lg_sl ([.ref (Z.2.2 26 0), .int p0]) ++ List.replicate (4 - (lg_sl ([.ref (Z.2.2 26 0), .int p0])).length) Slot.unset).toArray = ls at hl ⊢
  have hl : lv_has ls 4 [(0, .ref (Z.2.2 26 0)), (1, .int p0)] := hl
  have hk := hf
  unfold f_X7_days at hk
  refine lv_iload_n hx hb dX7_days_0 rfl (lv_at hl 1 rfl) ?_
  refine lv_iconst (v := (1 : Int32)) hx hb dX7_days_1 (by decide) ?_
  refine lv_bipush (v := (30 : Int32)) hx hb dX7_days_2 (by decide) ?_
  obtain ⟨v1, hf2, hk⟩ := b0_s hk
  refine wc_iS0 (rest := []) (As := [.int p0, .int (1 : Int32), .int (30 : Int32)]) ⟨hx, hb, hml, hown, hts⟩ (fun sz => k_X7_in l hfl Z hZ X M O p0 (1 : Int32) (30 : Int32) v1 hf2 sz) (cw_RX7_161 (args := args) (s := s) hts (Nat.le_of_ble_eq_true rfl) (Nat.le_of_ble_eq_true rfl)) hE hP hK hS  rfl hl.1 rfl (Nat.le_of_ble_eq_true rfl) dX7_days_4 ⟨Nat.le_of_ble_eq_true rfl, Nat.le_of_ble_eq_true rfl⟩ (fun H locs hP hS => ?_)
  refine lv_if_ne (tgt := 16) hx hb dX7_days_7 (by decide) (fun cz3 => ?_) (fun cz3 => ?_)
  · have hk := it_f cz3 hk
    refine lv_iconst (v := (0 : Int32)) hx hb dX7_days_16 (by decide) ?_
    refine lv_istore_n (lv' := [(2, .int (0 : Int32)), (0, .ref (Z.2.2 26 0)), (1, .int p0)]) hx hb dX7_days_17 rfl hl (by decide) rfl (fun ls hl => ?_)
    refine lv_iconst (v := (0 : Int32)) hx hb dX7_days_18 (by decide) ?_
    refine lv_istore_n (lv' := [(3, .int (0 : Int32)), (2, .int (0 : Int32)), (0, .ref (Z.2.2 26 0)), (1, .int p0)]) hx hb dX7_days_19 rfl hl (by decide) rfl (fun ls hl => ?_)
    obtain ⟨k4, hk4, hk⟩ := gn hk
    have ex4 : ∀ (v5 : Int32) (M6 : SS) (H : Heap) (locs : List Loc) (ls : Array Slot), k4 v5 M6 = some (Mz, r) → wP Z (X, M6, O) H → va_S (wA Z s.heap.size) s.heap H locs → lv_has ls 4 [(2, .int v5), (0, .ref (Z.2.2 26 0))] → W p l e (headSpec ws_X7_days rm_X7_days).room s m args below meth c H locs 0 0 (vx_MQ below (cQi Z (X, Mz, O) (.inl r) s.heap.size) (cX Z (X, Mz, O) (.inl r : Int32 ⊕ String) s.heap.size) args s 0 0 (wA Z s.heap.size)) (F0 m 90 ls []) := by
      intro v5 M6 H locs ls hk hP hS hl
      subst hk4
      refine lv_aload_n hx hb dX7_days_90 rfl (lv_at hl 1 rfl) ?_
      refine lv_iload_n hx hb dX7_days_91 rfl (lv_at hl 0 rfl) ?_
      obtain ⟨M11, v10, hf12, hk⟩ := b1_s hk
      refine wc_iV0 (rest := []) (As := [.int v5]) ⟨hx, hb, hml, hown, hts⟩ (fun sz => k_X7_tells l hfl Z hZ X M6 O v5 M11 v10 hf12 sz) (cw_RX7_169 (args := args) (s := s) hts (Nat.le_of_ble_eq_true rfl) (Nat.le_of_ble_eq_true rfl)) hE hP hK hS (rv_26 hK hP (by decide)) rfl hl.1 rfl (Nat.le_of_ble_eq_true rfl) dX7_days_92 ⟨Nat.le_of_ble_eq_true rfl, Nat.le_of_ble_eq_true rfl⟩ (fun H locs hP hS => ?_)
      cases (show some _ = some _ from hk)
      exact we_i hx hb hr hlocks hP rfl hS dX7_days_95 (by decide) (by decide)
    have lp4 : ∀ (n : Nat) (v7 : Int32) (v8 : Int32) (M9 : SS) (H : Heap) (locs : List Loc) (ls : Array Slot), f_X7_days_L20 p0 n v7 v8 M9 k4 = some (Mz, r) → wP Z (X, M9, O) H → va_S (wA Z s.heap.size) s.heap H locs → lv_has ls 4 [(3, .int v7), (2, .int v8), (0, .ref (Z.2.2 26 0)), (1, .int p0)] → W p l e (headSpec ws_X7_days rm_X7_days).room s m args below meth c H locs 0 0 (vx_MQ below (cQi Z (X, Mz, O) (.inl r) s.heap.size) (cX Z (X, Mz, O) (.inl r : Int32 ⊕ String) s.heap.size) args s 0 0 (wA Z s.heap.size)) (F0 m 20 ls []) := by
      intro n
      induction n with
      | zero =>
        intro v7 v8 M9 H locs ls hk
        rw [f_X7_days_L20] at hk
        exact nomatch (show none = some _ from hk)
      | succ n ih =>
        intro v7 v8 M9 H locs ls hk hP hS hl
        rw [f_X7_days_L20] at hk
        refine lv_iload_n hx hb dX7_days_20 rfl (lv_at hl 0 rfl) ?_
        refine lv_aload_n hx hb dX7_days_21 rfl (lv_at hl 2 rfl) ?_
        refine gf_RX7_25 hx hb hts hown hK hP (by decide) dX7_days_22 ?_
        refine lv_icmp_ge (tgt := 90) hx hb dX7_days_25 (by decide) (fun cz13 => ?_) (fun cz13 => ?_)
        · have hk := it_t cz13 hk
          exact ex4 v8 M9 _ _ _ hk hP hS (lv_sub hl [1, 2] rfl)
        · have hk := it_f cz13 hk
          refine lv_aload_n hx hb dX7_days_28 rfl (lv_at hl 2 rfl) ?_
          refine gf_RX7_110 hx hb hts hown hK hP (by decide) dX7_days_29 ?_
          refine lv_iload_n hx hb dX7_days_32 rfl (lv_at hl 0 rfl) ?_
          refine lv_dup2_11 hx hb dX7_days_33 rfl rfl ?_
          obtain ⟨hg14, hk⟩ := gd_s hk
          refine wa_iaload_49 hx hb hK hP (by decide) hg14 dX7_days_34 ?_
          refine lv_iload_n hx hb dX7_days_35 rfl (lv_at hl 3 rfl) ?_
          refine lv_isub hx hb dX7_days_36 ?_
          obtain ⟨hg15, hk⟩ := gd_s hk
          obtain ⟨M16, eM16, hk⟩ := lq_s hk
          refine wa_iastore_49 hx hb hZ hK hP hS (by decide) hg15 dX7_days_37 (fun H locs hP hS => ?_)
          rw [← eM16] at hP
          refine lv_aload_n hx hb dX7_days_38 rfl (lv_at hl 2 rfl) ?_
          refine gf_RX7_88 hx hb hts hown hK hP (by decide) dX7_days_39 ?_
          refine lv_iload_n hx hb dX7_days_42 rfl (lv_at hl 0 rfl) ?_
          obtain ⟨hg17, hk⟩ := gd_s hk
          refine wa_caload_42 hx hb hK hP (by decide) hg17 dX7_days_43 ?_
          refine lv_bipush (v := (99 : Int32)) hx hb dX7_days_44 (by decide) ?_
          refine lv_icmp_ne (tgt := 84) hx hb dX7_days_46 (by decide) (fun cz18 => ?_) (fun cz18 => ?_)
          · have hk := it_f cz18 hk
            refine lv_iinc (v := (v7 + (1 : Int32))) (lv' := [(3, .int (v7 + (1 : Int32))), (2, .int v8), (0, .ref (Z.2.2 26 0)), (1, .int p0)]) hx hb dX7_days_84 hl (k := 0) rfl rfl (by decide) rfl (fun ls hl => ?_)
            refine lv_goto (tgt := 20) hx hb dX7_days_87 (by decide) ?_
            exact ih (v7 + (1 : Int32)) v8 M16 _ _ _ hk hP hS (lv_sub hl [0, 1, 2, 3] rfl)
          · have hk := it_t cz18 hk
            refine lv_aload_n hx hb dX7_days_49 rfl (lv_at hl 2 rfl) ?_
            refine gf_RX7_110 hx hb hts hown hK hP (by decide) dX7_days_50 ?_
            refine lv_iload_n hx hb dX7_days_53 rfl (lv_at hl 0 rfl) ?_
            obtain ⟨hg19, hk⟩ := gd_s hk
            refine wa_iaload_49 hx hb hK hP (by decide) hg19 dX7_days_54 ?_
            refine lv_if_gt (tgt := 84) hx hb dX7_days_55 (by decide) (fun cz20 => ?_) (fun cz20 => ?_)
            · have hk := it_t cz20 hk
              refine lv_iinc (v := (v7 + (1 : Int32))) (lv' := [(3, .int (v7 + (1 : Int32))), (2, .int v8), (0, .ref (Z.2.2 26 0)), (1, .int p0)]) hx hb dX7_days_84 hl (k := 0) rfl rfl (by decide) rfl (fun ls hl => ?_)
              refine lv_goto (tgt := 20) hx hb dX7_days_87 (by decide) ?_
              exact ih (v7 + (1 : Int32)) v8 M16 _ _ _ hk hP hS (lv_sub hl [0, 1, 2, 3] rfl)
            · have hk := it_f cz20 hk
              refine lv_aload_n hx hb dX7_days_58 rfl (lv_at hl 2 rfl) ?_
              refine gf_RX7_88 hx hb hts hown hK hP (by decide) dX7_days_59 ?_
              refine lv_iload_n hx hb dX7_days_62 rfl (lv_at hl 0 rfl) ?_
              refine lv_bipush (v := (98 : Int32)) hx hb dX7_days_63 (by decide) ?_
              obtain ⟨hg21, hk⟩ := gd_s hk
              obtain ⟨M22, eM22, hk⟩ := lq_s hk
              refine wa_castore_42 hx hb hZ hK hP hS (by decide) hg21 dX7_days_65 (fun H locs hP hS => ?_)
              rw [← eM22] at hP
              refine lv_aload_n hx hb dX7_days_66 rfl (lv_at hl 2 rfl) ?_
              refine gf_RX7_116 hx hb hts hown hK hP (by decide) dX7_days_67 ?_
              refine lv_aload_n hx hb dX7_days_70 rfl (lv_at hl 2 rfl) ?_
              refine gf_RX7_107 hx hb hts hown hK hP (by decide) dX7_days_71 ?_
              refine lv_iload_n hx hb dX7_days_74 rfl (lv_at hl 0 rfl) ?_
              obtain ⟨hg23, hk⟩ := gd_s hk
              refine wa_iaload_48 hx hb hK hP (by decide) hg23 dX7_days_75 ?_
              refine lv_dup2_11 hx hb dX7_days_76 rfl rfl ?_
              obtain ⟨hg24, hk⟩ := gd_s hk
              refine wa_iaload_51 hx hb hK hP (by decide) hg24 dX7_days_77 ?_
              refine lv_iconst (v := (5 : Int32)) hx hb dX7_days_78 (by decide) ?_
              refine lv_iadd hx hb dX7_days_79 ?_
              obtain ⟨hg25, hk⟩ := gd_s hk
              obtain ⟨M26, eM26, hk⟩ := lq_s hk
              refine wa_iastore_51 hx hb hZ hK hP hS (by decide) hg25 dX7_days_80 (fun H locs hP hS => ?_)
              rw [← eM26] at hP
              refine lv_iinc (v := (v8 + (1 : Int32))) (lv' := [(2, .int (v8 + (1 : Int32))), (3, .int v7), (0, .ref (Z.2.2 26 0)), (1, .int p0)]) hx hb dX7_days_81 hl (k := 1) rfl rfl (by decide) rfl (fun ls hl => ?_)
              refine lv_iinc (v := (v7 + (1 : Int32))) (lv' := [(3, .int (v7 + (1 : Int32))), (2, .int (v8 + (1 : Int32))), (0, .ref (Z.2.2 26 0)), (1, .int p0)]) hx hb dX7_days_84 hl (k := 1) rfl rfl (by decide) rfl (fun ls hl => ?_)
              refine lv_goto (tgt := 20) hx hb dX7_days_87 (by decide) ?_
              exact ih (v7 + (1 : Int32)) (v8 + (1 : Int32)) M26 _ _ _ hk hP hS (lv_sub hl [0, 1, 2, 3] rfl)
    exact lp4 1000 (0 : Int32) (0 : Int32) M _ _ _ hk hP hS (lv_sub hl [0, 1, 2, 3] rfl)
  · have hk := it_t cz3 hk
    refine lv_aload_n hx hb dX7_days_10 rfl (lv_at hl 0 rfl) ?_
    refine lv_iconst (v := (1 : Int32)) hx hb dX7_days_11 (by decide) ?_
    obtain ⟨M28, v27, hf29, hk⟩ := b1_s hk
    refine wc_iV0 (rest := []) (As := [.int (1 : Int32)]) ⟨hx, hb, hml, hown, hts⟩ (fun sz => k_X7_fails l hfl Z hZ X M O (1 : Int32) M28 v27 hf29 sz) (cw_RX7_165 (args := args) (s := s) hts (Nat.le_of_ble_eq_true rfl) (Nat.le_of_ble_eq_true rfl)) hE hP hK hS (rv_26 hK hP (by decide)) rfl hl.1 rfl (Nat.le_of_ble_eq_true rfl) dX7_days_12 ⟨Nat.le_of_ble_eq_true rfl, Nat.le_of_ble_eq_true rfl⟩ (fun H locs hP hS => ?_)
    cases (show some _ = some _ from hk)
    exact we_i hx hb hr hlocks hP rfl hS dX7_days_15 (by decide) (by decide)
set_option maxHeartbeats 4000000 in
set_option maxRecDepth 100000 in
theorem k_X7_checksum (l : Launch) (hfl : l.stackTraces = false) (Z : ZT) (hZ : wD Z) (X M O : SS) (Mz : SS) (r : Int64) (hf : f_X7_checksum M = some (Mz, r)) (sz : Nat) : vx_Met l yX7_checksum ws_X7_checksum rm_X7_checksum (va_Pc [.ref (Z.2.2 26 0)] (cP Z (X, M, O) sz)) (cQl Z (X, Mz, O) (.inl r) sz) (cX Z (X, Mz, O) (.inl r : Int64 ⊕ String) sz) 0 0 (wA Z sz) := by
  refine vx_ofW (cc := cX7_checksum) (maxL := 4) (ret := (some .long)) (by decide) rfl ?_
  intro p e s m args below meth c s₁ B hml htab hv
  obtain ⟨hargs, hsz, hE, hP, hK⟩ := hv
  have hx := B.exec
  have hb := B.bytes
  have hr := B.returns
  have hts0 := atoms_spec (ws := ws_X7_checksum) B.pre
  have hts : ∀ w ∈ lw_all, w.before args s = true := fun w h => hts0 w (List.mem_cons_of_mem _ h)
  have hown : s.vm.findClass RX7 = some m.cls := findClass_of_methodNamed B.named
  have hlocks := B.notSynchronized
  have hout9 : ∀ (pc9 : Nat), ∀ x ∈ c.exceptionTable.toList, covers x pc9 = false := fun _ x hx9 => (htab x hx9).elim
  subst hsz
  have hS : va_S (wA Z s.heap.size) s.heap s.heap [] := va_S.rf
  have hl := lv_entry ([.ref (Z.2.2 26 0)]) (n := 4) (Nat.le_of_ble_eq_true rfl)
  have hen : entryFrame m args 4 = entryFrame m ([.ref (Z.2.2 26 0)] : List Value).toArray 4 := by rw [hargs]
  rw [hen, lg_entry_eq]
  generalize (lg_sl ([.ref (Z.2.2 26 0)]) ++ List.replicate (4 - (lg_sl ([.ref (Z.2.2 26 0)])).length) Slot.unset).toArray = ls at hl ⊢
  have hl : lv_has ls 4 [(0, .ref (Z.2.2 26 0))] := hl
  have hk := hf
  unfold f_X7_checksum at hk
  refine lv_aload_n hx hb dX7_checksum_0 rfl (lv_at hl 0 rfl) ?_
  refine lv_iconst (v := (0 : Int32)) hx hb dX7_checksum_1 (by decide) ?_
  obtain ⟨M1, eM1, hk⟩ := lq_s hk
  refine pf_RX7_37 hx hb hts hown hZ hK hP hS (by decide) dX7_checksum_2 (fun H locs hP hS => ?_)
  rw [← eM1] at hP
  refine lv_ldc2 (v := (7 : Int64)) hx hb hown (hts _ q1707) dX7_checksum_5 ?_
  obtain ⟨v2, ev2, hk⟩ := lq_s hk
  refine W.eq (g2 := F0 m 8 ls [.long v2]) (by rw [ev2]) ?_
  refine lv_lstore_n (lv' := [(1, .long v2), (0, .ref (Z.2.2 26 0))]) hx hb dX7_checksum_8 rfl hl (by decide) rfl (fun ls hl => ?_)
  refine lv_iconst (v := (0 : Int32)) hx hb dX7_checksum_9 (by decide) ?_
  refine lv_istore_n (lv' := [(3, .int (0 : Int32)), (1, .long v2), (0, .ref (Z.2.2 26 0))]) hx hb dX7_checksum_10 rfl hl (by decide) rfl (fun ls hl => ?_)
  obtain ⟨k3, hk3, hk⟩ := gn hk
  have ex3 : ∀ (v4 : Int64) (H : Heap) (locs : List Loc) (ls : Array Slot), k3 v4 = some (Mz, r) → wP Z (X, M1, O) H → va_S (wA Z s.heap.size) s.heap H locs → lv_has ls 4 [(1, .long v4), (0, .ref (Z.2.2 26 0))] → W p l e (headSpec ws_X7_checksum rm_X7_checksum).room s m args below meth c H locs 0 0 (vx_MQ below (cQl Z (X, Mz, O) (.inl r) s.heap.size) (cX Z (X, Mz, O) (.inl r : Int64 ⊕ String) s.heap.size) args s 0 0 (wA Z s.heap.size)) (F0 m 50 ls []) := by
    intro v4 H locs ls hk hP hS hl
    subst hk3
    refine lv_iconst (v := (0 : Int32)) hx hb dX7_checksum_50 (by decide) ?_
    refine lv_istore_n (lv' := [(3, .int (0 : Int32)), (1, .long v4), (0, .ref (Z.2.2 26 0))]) hx hb dX7_checksum_51 rfl hl (by decide) rfl (fun ls hl => ?_)
    obtain ⟨k7, hk7, hk⟩ := gn hk
    have ex7 : ∀ (v8 : Int64) (H : Heap) (locs : List Loc) (ls : Array Slot), k7 v8 = some (Mz, r) → wP Z (X, M1, O) H → va_S (wA Z s.heap.size) s.heap H locs → lv_has ls 4 [(1, .long v8)] → W p l e (headSpec ws_X7_checksum rm_X7_checksum).room s m args below meth c H locs 0 0 (vx_MQ below (cQl Z (X, Mz, O) (.inl r) s.heap.size) (cX Z (X, Mz, O) (.inl r : Int64 ⊕ String) s.heap.size) args s 0 0 (wA Z s.heap.size)) (F0 m 80 ls []) := by
      intro v8 H locs ls hk hP hS hl
      subst hk7
      refine lv_lload_n hx hb dX7_checksum_80 rfl (lv_at hl 0 rfl) ?_
      cases (show some _ = some _ from hk)
      exact we_l hx hb hr hlocks hP rfl hS dX7_checksum_81 (by decide) (by decide)
    have lp7 : ∀ (n : Nat) (v9 : Int32) (v10 : Int64) (H : Heap) (locs : List Loc) (ls : Array Slot), f_X7_checksum_L52 M1 n v9 v10 k7 = some (Mz, r) → wP Z (X, M1, O) H → va_S (wA Z s.heap.size) s.heap H locs → lv_has ls 4 [(3, .int v9), (1, .long v10), (0, .ref (Z.2.2 26 0))] → W p l e (headSpec ws_X7_checksum rm_X7_checksum).room s m args below meth c H locs 0 0 (vx_MQ below (cQl Z (X, Mz, O) (.inl r) s.heap.size) (cX Z (X, Mz, O) (.inl r : Int64 ⊕ String) s.heap.size) args s 0 0 (wA Z s.heap.size)) (F0 m 52 ls []) := by
      intro n
      induction n with
      | zero =>
        intro v9 v10 H locs ls hk
        rw [f_X7_checksum_L52] at hk
        exact nomatch (show none = some _ from hk)
      | succ n ih =>
        intro v9 v10 H locs ls hk hP hS hl
        rw [f_X7_checksum_L52] at hk
        refine lv_iload_n hx hb dX7_checksum_52 rfl (lv_at hl 0 rfl) ?_
        refine lv_aload_n hx hb dX7_checksum_53 rfl (lv_at hl 2 rfl) ?_
        refine gf_RX7_22 hx hb hts hown hK hP (by decide) dX7_checksum_54 ?_
        refine lv_icmp_ge (tgt := 80) hx hb dX7_checksum_57 (by decide) (fun cz11 => ?_) (fun cz11 => ?_)
        · have hk := it_t cz11 hk
          exact ex7 v10 _ _ _ hk hP hS (lv_sub hl [1] rfl)
        · have hk := it_f cz11 hk
          refine lv_ldc2 (v := (31 : Int64)) hx hb hown (hts _ q1510) dX7_checksum_60 ?_
          refine lv_lload_n hx hb dX7_checksum_63 rfl (lv_at hl 1 rfl) ?_
          refine lv_lmul hx hb dX7_checksum_64 ?_
          refine lv_aload_n hx hb dX7_checksum_65 rfl (lv_at hl 2 rfl) ?_
          refine gf_RX7_116 hx hb hts hown hK hP (by decide) dX7_checksum_66 ?_
          refine lv_iload_n hx hb dX7_checksum_69 rfl (lv_at hl 0 rfl) ?_
          obtain ⟨hg12, hk⟩ := gd_s hk
          refine wa_iaload_51 hx hb hK hP (by decide) hg12 dX7_checksum_70 ?_
          refine lv_i2l (v := ((M1.1 51 0 (v9).toNatClampNeg)).toInt64) hx hb dX7_checksum_71 rfl ?_
          refine lv_ladd hx hb dX7_checksum_72 ?_
          obtain ⟨v13, ev13, hk⟩ := lq_s hk
          refine W.eq (g2 := F0 m 73 ls [.long v13]) (by rw [ev13]) ?_
          refine lv_lstore_n (lv' := [(1, .long v13), (3, .int v9), (0, .ref (Z.2.2 26 0))]) hx hb dX7_checksum_73 rfl hl (by decide) rfl (fun ls hl => ?_)
          refine lv_iinc (v := (v9 + (1 : Int32))) (lv' := [(3, .int (v9 + (1 : Int32))), (1, .long v13), (0, .ref (Z.2.2 26 0))]) hx hb dX7_checksum_74 hl (k := 1) rfl rfl (by decide) rfl (fun ls hl => ?_)
          refine lv_goto (tgt := 52) hx hb dX7_checksum_77 (by decide) ?_
          exact ih (v9 + (1 : Int32)) v13 _ _ _ hk hP hS (lv_sub hl [0, 1, 2] rfl)
    exact lp7 1000 (0 : Int32) v4 _ _ _ hk hP hS (lv_sub hl [0, 1, 2] rfl)
  have lp3 : ∀ (n : Nat) (v5 : Int32) (v6 : Int64) (H : Heap) (locs : List Loc) (ls : Array Slot), f_X7_checksum_L11 M1 n v5 v6 k3 = some (Mz, r) → wP Z (X, M1, O) H → va_S (wA Z s.heap.size) s.heap H locs → lv_has ls 4 [(3, .int v5), (1, .long v6), (0, .ref (Z.2.2 26 0))] → W p l e (headSpec ws_X7_checksum rm_X7_checksum).room s m args below meth c H locs 0 0 (vx_MQ below (cQl Z (X, Mz, O) (.inl r) s.heap.size) (cX Z (X, Mz, O) (.inl r : Int64 ⊕ String) s.heap.size) args s 0 0 (wA Z s.heap.size)) (F0 m 11 ls []) := by
    intro n
    induction n with
    | zero =>
      intro v5 v6 H locs ls hk
      rw [f_X7_checksum_L11] at hk
      exact nomatch (show none = some _ from hk)
    | succ n ih =>
      intro v5 v6 H locs ls hk hP hS hl
      rw [f_X7_checksum_L11] at hk
      refine lv_iload_n hx hb dX7_checksum_11 rfl (lv_at hl 0 rfl) ?_
      refine lv_aload_n hx hb dX7_checksum_12 rfl (lv_at hl 2 rfl) ?_
      refine gf_RX7_25 hx hb hts hown hK hP (by decide) dX7_checksum_13 ?_
      refine lv_icmp_ge (tgt := 50) hx hb dX7_checksum_16 (by decide) (fun cz14 => ?_) (fun cz14 => ?_)
      · have hk := it_t cz14 hk
        exact ex3 v6 _ _ _ hk hP hS (lv_sub hl [1, 2] rfl)
      · have hk := it_f cz14 hk
        refine lv_ldc2 (v := (31 : Int64)) hx hb hown (hts _ q1510) dX7_checksum_19 ?_
        refine lv_ldc2 (v := (31 : Int64)) hx hb hown (hts _ q1510) dX7_checksum_22 ?_
        refine lv_lload_n hx hb dX7_checksum_25 rfl (lv_at hl 1 rfl) ?_
        refine lv_lmul hx hb dX7_checksum_26 ?_
        refine lv_aload_n hx hb dX7_checksum_27 rfl (lv_at hl 2 rfl) ?_
        refine gf_RX7_88 hx hb hts hown hK hP (by decide) dX7_checksum_28 ?_
        refine lv_iload_n hx hb dX7_checksum_31 rfl (lv_at hl 0 rfl) ?_
        obtain ⟨hg15, hk⟩ := gd_s hk
        refine wa_caload_42 hx hb hK hP (by decide) hg15 dX7_checksum_32 ?_
        refine lv_i2l (v := ((M1.1 42 0 (v5).toNatClampNeg)).toInt64) hx hb dX7_checksum_33 rfl ?_
        refine lv_ladd hx hb dX7_checksum_34 ?_
        refine lv_lmul hx hb dX7_checksum_35 ?_
        refine lv_aload_n hx hb dX7_checksum_36 rfl (lv_at hl 2 rfl) ?_
        refine lv_iload_n hx hb dX7_checksum_37 rfl (lv_at hl 0 rfl) ?_
        obtain ⟨v16, hf17, hk⟩ := b0_s hk
        refine wc_iV0 (rest := [.long ((31 : Int64) * (((31 : Int64) * v6) + ((M1.1 42 0 (v5).toNatClampNeg)).toInt64))]) (As := [.int v5]) ⟨hx, hb, hml, hown, hts⟩ (fun sz => k_X7_weighed l hfl Z hZ X M1 O v5 v16 hf17 sz) (cw_RX7_259 (args := args) (s := s) hts (Nat.le_of_ble_eq_true rfl) (Nat.le_of_ble_eq_true rfl)) hE hP hK hS (rv_26 hK hP (by decide)) rfl hl.1 rfl (Nat.le_of_ble_eq_true rfl) dX7_checksum_38 ⟨Nat.le_of_ble_eq_true rfl, Nat.le_of_ble_eq_true rfl⟩ (fun H locs hP hS => ?_)
        refine lv_i2l (v := (v16).toInt64) hx hb dX7_checksum_41 rfl ?_
        refine lv_ladd hx hb dX7_checksum_42 ?_
        obtain ⟨v18, ev18, hk⟩ := lq_s hk
        refine W.eq (g2 := F0 m 43 ls [.long v18]) (by rw [ev18]) ?_
        refine lv_lstore_n (lv' := [(1, .long v18), (3, .int v5), (0, .ref (Z.2.2 26 0))]) hx hb dX7_checksum_43 rfl hl (by decide) rfl (fun ls hl => ?_)
        refine lv_iinc (v := (v5 + (1 : Int32))) (lv' := [(3, .int (v5 + (1 : Int32))), (1, .long v18), (0, .ref (Z.2.2 26 0))]) hx hb dX7_checksum_44 hl (k := 1) rfl rfl (by decide) rfl (fun ls hl => ?_)
        refine lv_goto (tgt := 11) hx hb dX7_checksum_47 (by decide) ?_
        exact ih (v5 + (1 : Int32)) v18 _ _ _ hk hP hS (lv_sub hl [0, 1, 2] rfl)
  exact lp3 1000 (0 : Int32) v2 _ _ _ hk hP hS (lv_sub hl [0, 1, 2] rfl)