set_option maxHeartbeats 4000000 in
set_option maxRecDepth 100000 in
theorem k_L_copy (l : Launch) (hfl : l.stackTraces = false) (Z : ZT) (hZ : wD Z) (X M O : SS) (p1 : Int32) (p2 : Int32) (Oz : SS) (r : Int32) (hf : f_L_copy X O p1 p2 = some (Oz, r)) (sz : Nat) : vx_Met l yL_copy ws_L_copy rm_L_copy (va_Pc [.ref (Z.2.2 0 0), .int p1, .int p2, .ref (Z.2.2 56 0)] (cP Z (X, M, O) sz)) (cQi Z (X, M, Oz) (.inl r) sz) (cX Z (X, M, Oz) (.inl r : Int32 ⊕ String) sz) 2 12 (wA Z sz) := by
  refine vx_ofWH (cc := cL_copy) (maxL := 5) (ret := (some .int)) (hh := [(0, 10, 13, 28), (0, 10, 17, 47)]) (by decide) rfl ?_
  intro p e s m args below meth c s₁ B hml hv
  obtain ⟨hargs, hsz, hE, hP, hK⟩ := hv
  have hx := B.exec
  have hb := B.bytes
  have hr := B.returns
  have hts0 := atoms_spec (ws := ws_L_copy) B.pre
  have hts : ∀ w ∈ lw_all, w.before args s = true := fun w h => hts0 w (List.mem_cons_of_mem _ h)
  have hown : s.vm.findClass RL = some m.cls := findClass_of_methodNamed B.named
  have hlocks := B.notSynchronized
  have htab := vx_table (x := yL_copy) B (hts0 (.codeWith yL_copy cL_copy 5 (some .int) [(0, 10, 13, 28), (0, 10, 17, 47)]) List.mem_cons_self)
  subst hsz
  have hS : va_S (wA Z s.heap.size) s.heap s.heap [] := va_S.rf
  have hl := lv_entry ([.ref (Z.2.2 0 0), .int p1, .int p2, .ref (Z.2.2 56 0)]) (n := 5) (Nat.le_of_ble_eq_true rfl)
  have hen : entryFrame m args 5 = entryFrame m ([.ref (Z.2.2 0 0), .int p1, .int p2, .ref (Z.2.2 56 0)] : List Value).toArray 5 := by rw [hargs]
  rw [hen, lg_entry_eq]
  generalize (lg_sl ([.ref (Z.2.2 0 0), .int p1, .int p2, .ref (Z.2.2 56 0)]) ++ List.replicate (5 - (lg_sl ([.ref (Z.2.2 0 0), .int p1, .int p2, .ref (Z.2.2 56 0)])).length) Slot.unset).toArray = ls at hl ⊢
  have hl : lv_has ls 5 [(0, .ref (Z.2.2 0 0)), (1, .int p1), (2, .int p2), (3, .ref (Z.2.2 56 0))] := hl
  have hk := hf
  unfold f_L_copy at hk
  refine lv_aload_n hx hb dL_copy_0 rfl (lv_at hl 3 rfl) ?_
  refine lv_iconst (v := (0 : Int32)) hx hb dL_copy_1 (by decide) ?_
  refine lv_aload_n hx hb dL_copy_2 rfl (lv_at hl 0 rfl) ?_
  refine lv_iload_n hx hb dL_copy_3 rfl (lv_at hl 1 rfl) ?_
  refine lv_iload_n hx hb dL_copy_4 rfl (lv_at hl 2 rfl) ?_
  obtain ⟨o3, hf2, hn5, he6⟩ := e0_s hk
  refine wc_iV (rest := [.int (0 : Int32), .ref (Z.2.2 56 0)]) (As := [.int p1, .int p2]) ⟨hx, hb, hml, hown, hts⟩ (fun sz => k_X6_copy l hfl Z hZ X M O p1 p2 o3 hf2 sz) (cw_RL_95 (args := args) (s := s) hts (Nat.le_of_ble_eq_true rfl) (Nat.le_of_ble_eq_true rfl)) hE hP hK hS (rv_0 hK hP (by decide)) rfl hl.1 rfl (Nat.le_of_ble_eq_true rfl) dL_copy_5 ⟨Nat.le_of_ble_eq_true rfl, Nat.le_of_ble_eq_true rfl⟩ (fun E4 ce9 q9 H locs hoE hP hS hc9 hv9 hcl9 => ?_) (fun v1 H locs ho hP hS => ?_)
  · have hk := he6 _ hoE
    by_cases cz7 : E4 = "java/lang/IndexOutOfBoundsException"
    · have hk := it_t cz7 hk
      subst cz7
      refine vx_catch hown [] ⟨0, 10, 13, 28⟩ [⟨0, 10, 17, 47⟩] (htab.trans rfl) (fun z hz => nomatch hz) (by decide) (by decide) (hts _ q753) (EV.cast hE (by decide +kernel)) hc9 hv9 hcl9 ?_
      refine lv_astore (lv' := [(4, .ref q9), (0, .ref (Z.2.2 0 0)), (1, .int p1), (2, .int p2), (3, .ref (Z.2.2 56 0))]) hx hb dL_copy_13 hl (by decide) rfl (fun ls hl => ?_)
      refine lv_iconst (v := (1 : Int32)) hx hb dL_copy_15 (by decide) ?_
      cases (show some _ = some _ from hk)
      exact we_i hx hb hr hlocks hP rfl hS dL_copy_16 (by decide) (by decide)
    have hk := it_f cz7 hk
    by_cases cz8 : E4 = "java/util/NoSuchElementException"
    · have hk := it_t cz8 hk
      subst cz8
      refine vx_catch hown [⟨0, 10, 13, 28⟩] ⟨0, 10, 17, 47⟩ [] (htab.trans rfl) (by intro z hz; simp only [List.mem_cons, List.not_mem_nil, or_false] at hz; rcases hz with rfl <;> first | exact Or.inr ⟨by decide, "java/lang/IndexOutOfBoundsException", hts _ q753, EV.nc hE (by decide +kernel)⟩) (by decide) (by decide) (hts _ q857) (EV.cast hE (by decide +kernel)) hc9 hv9 hcl9 ?_
      refine lv_astore (lv' := [(4, .ref q9), (0, .ref (Z.2.2 0 0)), (1, .int p1), (2, .int p2), (3, .ref (Z.2.2 56 0))]) hx hb dL_copy_17 hl (by decide) rfl (fun ls hl => ?_)
      refine lv_iconst (v := (2 : Int32)) hx hb dL_copy_19 (by decide) ?_
      cases (show some _ = some _ from hk)
      exact we_i hx hb hr hlocks hP rfl hS dL_copy_20 (by decide) (by decide)
    have hk := it_f cz8 hk
    exact nomatch (show none = some _ from hk)
  have hk := hn5 _ ho
  refine lv_i2l (v := (v1).toInt64) hx hb dL_copy_8 rfl ?_
  obtain ⟨O9, eO9, hk⟩ := lq_s hk
  refine wa_lastore_56 hx hb hZ hK hP hS (by decide) (by unfold vp_in; decide) dL_copy_9 (fun H locs hP hS => ?_)
  rw [← eO9] at hP
  refine lv_goto (tgt := 21) hx hb dL_copy_10 (by decide) ?_
  refine lv_iconst (v := (0 : Int32)) hx hb dL_copy_21 (by decide) ?_
  cases (show some _ = some _ from hk)
  exact we_i hx hb hr hlocks hP rfl hS dL_copy_22 (by decide) (by decide)
set_option maxHeartbeats 4000000 in
set_option maxRecDepth 100000 in
theorem k_L_vote (l : Launch) (hfl : l.stackTraces = false) (Z : ZT) (hZ : wD Z) (X M O : SS) (p1 : Int32) (p2 : Int32) (p3 : Int32) (Xz : SS) (Oz : SS) (r : Int32) (hf : f_L_vote X O p1 p2 p3 = some (Xz, Oz, r)) (sz : Nat) : vx_Met l yL_vote ws_L_vote rm_L_vote (va_Pc [.ref (Z.2.2 0 0), .int p1, .int p2, .int p3, .ref (Z.2.2 56 0)] (cP Z (X, M, O) sz)) (cQi Z (Xz, M, Oz) (.inl r) sz) (cX Z (Xz, M, Oz) (.inl r : Int32 ⊕ String) sz) 3 18 (wA Z sz) := by
  refine vx_ofWH (cc := cL_vote) (maxL := 6) (ret := (some .int)) (hh := [(0, 12, 15, 28), (0, 12, 19, 13), (0, 12, 23, 41)]) (by decide) rfl ?_
  intro p e s m args below meth c s₁ B hml hv
  obtain ⟨hargs, hsz, hE, hP, hK⟩ := hv
  have hx := B.exec
  have hb := B.bytes
  have hr := B.returns
  have hts0 := atoms_spec (ws := ws_L_vote) B.pre
  have hts : ∀ w ∈ lw_all, w.before args s = true := fun w h => hts0 w (List.mem_cons_of_mem _ h)
  have hown : s.vm.findClass RL = some m.cls := findClass_of_methodNamed B.named
  have hlocks := B.notSynchronized
  have htab := vx_table (x := yL_vote) B (hts0 (.codeWith yL_vote cL_vote 6 (some .int) [(0, 12, 15, 28), (0, 12, 19, 13), (0, 12, 23, 41)]) List.mem_cons_self)
  subst hsz
  have hS : va_S (wA Z s.heap.size) s.heap s.heap [] := va_S.rf
  have hl := lv_entry ([.ref (Z.2.2 0 0), .int p1, .int p2, .int p3, .ref (Z.2.2 56 0)]) (n := 6) (Nat.le_of_ble_eq_true rfl)
  have hen : entryFrame m args 6 = entryFrame m ([.ref (Z.2.2 0 0), .int p1, .int p2, .int p3, .ref (Z.2.2 56 0)] : List Value).toArray 6 := by rw [hargs]
  rw [hen, lg_entry_eq]
  generalize (lg_sl ([.ref (Z.2.2 0 0), .int p1, .int p2, .int p3, .ref (Z.2.2 56 0)]) ++ List.replicate (6 - (lg_sl ([.ref (Z.2.2 0 0), .int p1, .int p2, .int p3, .ref (Z.2.2 56 0)])).length) Slot.unset).toArray = ls at hl ⊢
  have hl : lv_has ls 6 [(0, .ref (Z.2.2 0 0)), (1, .int p1), (2, .int p2), (3, .int p3), (4, .ref (Z.2.2 56 0))] := hl
  have hk := hf
  unfold f_L_vote at hk
  refine lv_aload hx hb dL_vote_0 (lv_at hl 4 rfl) ?_
  refine lv_iconst (v := (0 : Int32)) hx hb dL_vote_2 (by decide) ?_
  refine lv_aload_n hx hb dL_vote_3 rfl (lv_at hl 0 rfl) ?_
  refine lv_iload_n hx hb dL_vote_4 rfl (lv_at hl 1 rfl) ?_
  refine lv_iload_n hx hb dL_vote_5 rfl (lv_at hl 2 rfl) ?_
  refine lv_iload_n hx hb dL_vote_6 rfl (lv_at hl 3 rfl) ?_
  obtain ⟨X2, o4, hf3, hn6, he7⟩ := e1_s hk
  refine wc_iV (rest := [.int (0 : Int32), .ref (Z.2.2 56 0)]) (As := [.int p1, .int p2, .int p3]) ⟨hx, hb, hml, hown, hts⟩ (fun sz => k_X6_vote l hfl Z hZ X M O p1 p2 p3 X2 o4 hf3 sz) (cw_RL_98 (args := args) (s := s) hts (Nat.le_of_ble_eq_true rfl) (Nat.le_of_ble_eq_true rfl)) hE hP hK hS (rv_0 hK hP (by decide)) rfl hl.1 rfl (Nat.le_of_ble_eq_true rfl) dL_vote_7 ⟨Nat.le_of_ble_eq_true rfl, Nat.le_of_ble_eq_true rfl⟩ (fun E5 ce9 q9 H locs hoE hP hS hc9 hv9 hcl9 => ?_) (fun v1 H locs ho hP hS => ?_)
  · have hk := he7 _ hoE
    by_cases cz8 : E5 = "java/lang/IndexOutOfBoundsException"
    · have hk := it_t cz8 hk
      subst cz8
      refine vx_catch hown [] ⟨0, 12, 15, 28⟩ [⟨0, 12, 19, 13⟩, ⟨0, 12, 23, 41⟩] (htab.trans rfl) (fun z hz => nomatch hz) (by decide) (by decide) (hts _ q753) (EV.cast hE (by decide +kernel)) hc9 hv9 hcl9 ?_
      refine lv_astore (lv' := [(5, .ref q9), (0, .ref (Z.2.2 0 0)), (1, .int p1), (2, .int p2), (3, .int p3), (4, .ref (Z.2.2 56 0))]) hx hb dL_vote_15 hl (by decide) rfl (fun ls hl => ?_)
      refine lv_iconst (v := (1 : Int32)) hx hb dL_vote_17 (by decide) ?_
      cases (show some _ = some _ from hk)
      exact we_i hx hb hr hlocks hP rfl hS dL_vote_18 (by decide) (by decide)
    have hk := it_f cz8 hk
    by_cases cz9 : E5 = "java/lang/IllegalArgumentException"
    · have hk := it_t cz9 hk
      subst cz9
      refine vx_catch hown [⟨0, 12, 15, 28⟩] ⟨0, 12, 19, 13⟩ [⟨0, 12, 23, 41⟩] (htab.trans rfl) (by intro z hz; simp only [List.mem_cons, List.not_mem_nil, or_false] at hz; rcases hz with rfl <;> first | exact Or.inr ⟨by decide, "java/lang/IndexOutOfBoundsException", hts _ q753, EV.nc hE (by decide +kernel)⟩) (by decide) (by decide) (hts _ q536) (EV.cast hE (by decide +kernel)) hc9 hv9 hcl9 ?_
      refine lv_astore (lv' := [(5, .ref q9), (0, .ref (Z.2.2 0 0)), (1, .int p1), (2, .int p2), (3, .int p3), (4, .ref (Z.2.2 56 0))]) hx hb dL_vote_19 hl (by decide) rfl (fun ls hl => ?_)
      refine lv_iconst (v := (2 : Int32)) hx hb dL_vote_21 (by decide) ?_
      cases (show some _ = some _ from hk)
      exact we_i hx hb hr hlocks hP rfl hS dL_vote_22 (by decide) (by decide)
    have hk := it_f cz9 hk
    by_cases cz10 : E5 = "java/lang/UnsupportedOperationException"
    · have hk := it_t cz10 hk
      subst cz10
      refine vx_catch hown [⟨0, 12, 15, 28⟩, ⟨0, 12, 19, 13⟩] ⟨0, 12, 23, 41⟩ [] (htab.trans rfl) (by intro z hz; simp only [List.mem_cons, List.not_mem_nil, or_false] at hz; rcases hz with rfl | rfl <;> first | exact Or.inr ⟨by decide, "java/lang/IndexOutOfBoundsException", hts _ q753, EV.nc hE (by decide +kernel)⟩ | exact Or.inr ⟨by decide, "java/lang/IllegalArgumentException", hts _ q536, EV.nc hE (by decide +kernel)⟩) (by decide) (by decide) (hts _ q829) (EV.cast hE (by decide +kernel)) hc9 hv9 hcl9 ?_
      refine lv_astore (lv' := [(5, .ref q9), (0, .ref (Z.2.2 0 0)), (1, .int p1), (2, .int p2), (3, .int p3), (4, .ref (Z.2.2 56 0))]) hx hb dL_vote_23 hl (by decide) rfl (fun ls hl => ?_)
      refine lv_iconst (v := (3 : Int32)) hx hb dL_vote_25 (by decide) ?_
      cases (show some _ = some _ from hk)
      exact we_i hx hb hr hlocks hP rfl hS dL_vote_26 (by decide) (by decide)
    have hk := it_f cz10 hk
    exact nomatch (show none = some _ from hk)
  have hk := hn6 _ ho
  refine lv_i2l (v := (v1).toInt64) hx hb dL_vote_10 rfl ?_
  obtain ⟨O11, eO11, hk⟩ := lq_s hk
  refine wa_lastore_56 hx hb hZ hK hP hS (by decide) (by unfold vp_in; decide) dL_vote_11 (fun H locs hP hS => ?_)
  rw [← eO11] at hP
  refine lv_goto (tgt := 27) hx hb dL_vote_12 (by decide) ?_
  refine lv_iconst (v := (0 : Int32)) hx hb dL_vote_27 (by decide) ?_
  cases (show some _ = some _ from hk)
  exact we_i hx hb hr hlocks hP rfl hS dL_vote_28 (by decide) (by decide)
set_option maxHeartbeats 4000000 in
set_option maxRecDepth 100000 in
theorem k_L_style (l : Launch) (hfl : l.stackTraces = false) (Z : ZT) (hZ : wD Z) (X M O : SS) (p1 : Int32) (p2 : Int32) (Oz : SS) (r : Int32) (hf : f_L_style X O p1 p2 = some (Oz, r)) (sz : Nat) : vx_Met l yL_style ws_L_style rm_L_style (va_Pc [.ref (Z.2.2 0 0), .int p1, .int p2, .ref (Z.2.2 56 0)] (cP Z (X, M, O) sz)) (cQi Z (X, M, Oz) (.inl r) sz) (cX Z (X, M, Oz) (.inl r : Int32 ⊕ String) sz) 1 6 (wA Z sz) := by
  refine vx_ofWH (cc := cL_style) (maxL := 5) (ret := (some .int)) (hh := [(0, 9, 12, 28)]) (by decide) rfl ?_
  intro p e s m args below meth c s₁ B hml hv
  obtain ⟨hargs, hsz, hE, hP, hK⟩ := hv
  have hx := B.exec
  have hb := B.bytes
  have hr := B.returns
  have hts0 := atoms_spec (ws := ws_L_style) B.pre
  have hts : ∀ w ∈ lw_all, w.before args s = true := fun w h => hts0 w (List.mem_cons_of_mem _ h)
  have hown : s.vm.findClass RL = some m.cls := findClass_of_methodNamed B.named
  have hlocks := B.notSynchronized
  have htab := vx_table (x := yL_style) B (hts0 (.codeWith yL_style cL_style 5 (some .int) [(0, 9, 12, 28)]) List.mem_cons_self)
  subst hsz
  have hS : va_S (wA Z s.heap.size) s.heap s.heap [] := va_S.rf
  have hl := lv_entry ([.ref (Z.2.2 0 0), .int p1, .int p2, .ref (Z.2.2 56 0)]) (n := 5) (Nat.le_of_ble_eq_true rfl)
  have hen : entryFrame m args 5 = entryFrame m ([.ref (Z.2.2 0 0), .int p1, .int p2, .ref (Z.2.2 56 0)] : List Value).toArray 5 := by rw [hargs]
  rw [hen, lg_entry_eq]
  generalize (lg_sl ([.ref (Z.2.2 0 0), .int p1, .int p2, .ref (Z.2.2 56 0)]) ++ List.replicate (5 - (lg_sl ([.ref (Z.2.2 0 0), .int p1, .int p2, .ref (Z.2.2 56 0)])).length) Slot.unset).toArray = ls at hl ⊢
  have hl : lv_has ls 5 [(0, .ref (Z.2.2 0 0)), (1, .int p1), (2, .int p2), (3, .ref (Z.2.2 56 0))] := hl
  have hk := hf
  unfold f_L_style at hk
  refine lv_aload_n hx hb dL_style_0 rfl (lv_at hl 3 rfl) ?_
  refine lv_iconst (v := (0 : Int32)) hx hb dL_style_1 (by decide) ?_
  refine lv_aload_n hx hb dL_style_2 rfl (lv_at hl 0 rfl) ?_
  refine lv_iload_n hx hb dL_style_3 rfl (lv_at hl 1 rfl) ?_
  refine lv_iload_n hx hb dL_style_4 rfl (lv_at hl 2 rfl) ?_
  obtain ⟨o3, hf2, hn5, he6⟩ := e0_s hk
  refine wc_lV (rest := [.int (0 : Int32), .ref (Z.2.2 56 0)]) (As := [.int p1, .int p2]) ⟨hx, hb, hml, hown, hts⟩ (fun sz => k_X6_style l hfl Z hZ X M O p1 p2 o3 hf2 sz) (cw_RL_102 (args := args) (s := s) hts (Nat.le_of_ble_eq_true rfl) (Nat.le_of_ble_eq_true rfl)) hE hP hK hS (rv_0 hK hP (by decide)) rfl hl.1 rfl (Nat.le_of_ble_eq_true rfl) dL_style_5 ⟨Nat.le_of_ble_eq_true rfl, Nat.le_of_ble_eq_true rfl⟩ (fun E4 ce9 q9 H locs hoE hP hS hc9 hv9 hcl9 => ?_) (fun v1 H locs ho hP hS => ?_)
  · have hk := he6 _ hoE
    by_cases cz7 : E4 = "java/lang/IndexOutOfBoundsException"
    · have hk := it_t cz7 hk
      subst cz7
      refine vx_catch hown [] ⟨0, 9, 12, 28⟩ [] (htab.trans rfl) (fun z hz => nomatch hz) (by decide) (by decide) (hts _ q753) (EV.cast hE (by decide +kernel)) hc9 hv9 hcl9 ?_
      refine lv_astore (lv' := [(4, .ref q9), (0, .ref (Z.2.2 0 0)), (1, .int p1), (2, .int p2), (3, .ref (Z.2.2 56 0))]) hx hb dL_style_12 hl (by decide) rfl (fun ls hl => ?_)
      refine lv_iconst (v := (1 : Int32)) hx hb dL_style_14 (by decide) ?_
      cases (show some _ = some _ from hk)
      exact we_i hx hb hr hlocks hP rfl hS dL_style_15 (by decide) (by decide)
    have hk := it_f cz7 hk
    exact nomatch (show none = some _ from hk)
  have hk := hn5 _ ho
  obtain ⟨O8, eO8, hk⟩ := lq_s hk
  refine wa_lastore_56 hx hb hZ hK hP hS (by decide) (by unfold vp_in; decide) dL_style_8 (fun H locs hP hS => ?_)
  rw [← eO8] at hP
  refine lv_goto (tgt := 16) hx hb dL_style_9 (by decide) ?_
  refine lv_iconst (v := (0 : Int32)) hx hb dL_style_16 (by decide) ?_
  cases (show some _ = some _ from hk)
  exact we_i hx hb hr hlocks hP rfl hS dL_style_17 (by decide) (by decide)
set_option maxHeartbeats 4000000 in
set_option maxRecDepth 100000 in
theorem k_L_review (l : Launch) (hfl : l.stackTraces = false) (Z : ZT) (hZ : wD Z) (X M O : SS) (p1 : Int32) (Oz : SS) (r : Int32) (hf : f_L_review X O p1 = some (Oz, r)) (sz : Nat) : vx_Met l yL_review ws_L_review rm_L_review (va_Pc [.ref (Z.2.2 0 0), .int p1, .ref (Z.2.2 56 0)] (cP Z (X, M, O) sz)) (cQi Z (X, M, Oz) (.inl r) sz) (cX Z (X, M, Oz) (.inl r : Int32 ⊕ String) sz) 2 12 (wA Z sz) := by
  refine vx_ofWH (cc := cL_review) (maxL := 4) (ret := (some .int)) (hh := [(0, 9, 12, 28), (0, 9, 15, 47)]) (by decide) rfl ?_
  intro p e s m args below meth c s₁ B hml hv
  obtain ⟨hargs, hsz, hE, hP, hK⟩ := hv
  have hx := B.exec
  have hb := B.bytes
  have hr := B.returns
  have hts0 := atoms_spec (ws := ws_L_review) B.pre
  have hts : ∀ w ∈ lw_all, w.before args s = true := fun w h => hts0 w (List.mem_cons_of_mem _ h)
  have hown : s.vm.findClass RL = some m.cls := findClass_of_methodNamed B.named
  have hlocks := B.notSynchronized
  have htab := vx_table (x := yL_review) B (hts0 (.codeWith yL_review cL_review 4 (some .int) [(0, 9, 12, 28), (0, 9, 15, 47)]) List.mem_cons_self)
  subst hsz
  have hS : va_S (wA Z s.heap.size) s.heap s.heap [] := va_S.rf
  have hl := lv_entry ([.ref (Z.2.2 0 0), .int p1, .ref (Z.2.2 56 0)]) (n := 4) (Nat.le_of_ble_eq_true rfl)
  have hen : entryFrame m args 4 = entryFrame m ([.ref (Z.2.2 0 0), .int p1, .ref (Z.2.2 56 0)] : List Value).toArray 4 := by rw [hargs]
  rw [hen, lg_entry_eq]
  generalize (lg_sl ([.ref (Z.2.2 0 0), .int p1, .ref (Z.2.2 56 0)]) ++ List.replicate (4 - (lg_sl ([.ref (Z.2.2 0 0), .int p1, .ref (Z.2.2 56 0)])).length) Slot.unset).toArray = ls at hl ⊢
  have hl : lv_has ls 4 [(0, .ref (Z.2.2 0 0)), (1, .int p1), (2, .ref (Z.2.2 56 0))] := hl
  have hk := hf
  unfold f_L_review at hk
  refine lv_aload_n hx hb dL_review_0 rfl (lv_at hl 2 rfl) ?_
  refine lv_iconst (v := (0 : Int32)) hx hb dL_review_1 (by decide) ?_
  refine lv_aload_n hx hb dL_review_2 rfl (lv_at hl 0 rfl) ?_
  refine lv_iload_n hx hb dL_review_3 rfl (lv_at hl 1 rfl) ?_
  obtain ⟨o3, hf2, hn5, he6⟩ := e0_s hk
  refine wc_iV (rest := [.int (0 : Int32), .ref (Z.2.2 56 0)]) (As := [.int p1]) ⟨hx, hb, hml, hown, hts⟩ (fun sz => k_X6_review l hfl Z hZ X M O p1 o3 hf2 sz) (cw_RL_106 (args := args) (s := s) hts (Nat.le_of_ble_eq_true rfl) (Nat.le_of_ble_eq_true rfl)) hE hP hK hS (rv_0 hK hP (by decide)) rfl hl.1 rfl (Nat.le_of_ble_eq_true rfl) dL_review_4 ⟨Nat.le_of_ble_eq_true rfl, Nat.le_of_ble_eq_true rfl⟩ (fun E4 ce9 q9 H locs hoE hP hS hc9 hv9 hcl9 => ?_) (fun v1 H locs ho hP hS => ?_)
  · have hk := he6 _ hoE
    by_cases cz7 : E4 = "java/lang/IndexOutOfBoundsException"
    · have hk := it_t cz7 hk
      subst cz7
      refine vx_catch hown [] ⟨0, 9, 12, 28⟩ [⟨0, 9, 15, 47⟩] (htab.trans rfl) (fun z hz => nomatch hz) (by decide) (by decide) (hts _ q753) (EV.cast hE (by decide +kernel)) hc9 hv9 hcl9 ?_
      refine lv_astore_n (lv' := [(3, .ref q9), (0, .ref (Z.2.2 0 0)), (1, .int p1), (2, .ref (Z.2.2 56 0))]) hx hb dL_review_12 rfl hl (by decide) rfl (fun ls hl => ?_)
      refine lv_iconst (v := (1 : Int32)) hx hb dL_review_13 (by decide) ?_
      cases (show some _ = some _ from hk)
      exact we_i hx hb hr hlocks hP rfl hS dL_review_14 (by decide) (by decide)
    have hk := it_f cz7 hk
    by_cases cz8 : E4 = "java/util/NoSuchElementException"
    · have hk := it_t cz8 hk
      subst cz8
      refine vx_catch hown [⟨0, 9, 12, 28⟩] ⟨0, 9, 15, 47⟩ [] (htab.trans rfl) (by intro z hz; simp only [List.mem_cons, List.not_mem_nil, or_false] at hz; rcases hz with rfl <;> first | exact Or.inr ⟨by decide, "java/lang/IndexOutOfBoundsException", hts _ q753, EV.nc hE (by decide +kernel)⟩) (by decide) (by decide) (hts _ q857) (EV.cast hE (by decide +kernel)) hc9 hv9 hcl9 ?_
      refine lv_astore_n (lv' := [(3, .ref q9), (0, .ref (Z.2.2 0 0)), (1, .int p1), (2, .ref (Z.2.2 56 0))]) hx hb dL_review_15 rfl hl (by decide) rfl (fun ls hl => ?_)
      refine lv_iconst (v := (2 : Int32)) hx hb dL_review_16 (by decide) ?_
      cases (show some _ = some _ from hk)
      exact we_i hx hb hr hlocks hP rfl hS dL_review_17 (by decide) (by decide)
    have hk := it_f cz8 hk
    exact nomatch (show none = some _ from hk)
  have hk := hn5 _ ho
  refine lv_i2l (v := (v1).toInt64) hx hb dL_review_7 rfl ?_
  obtain ⟨O9, eO9, hk⟩ := lq_s hk
  refine wa_lastore_56 hx hb hZ hK hP hS (by decide) (by unfold vp_in; decide) dL_review_8 (fun H locs hP hS => ?_)
  rw [← eO9] at hP
  refine lv_goto (tgt := 18) hx hb dL_review_9 (by decide) ?_
  refine lv_iconst (v := (0 : Int32)) hx hb dL_review_18 (by decide) ?_
  cases (show some _ = some _ from hk)
  exact we_i hx hb hr hlocks hP rfl hS dL_review_19 (by decide) (by decide)
set_option maxHeartbeats 4000000 in
set_option maxRecDepth 100000 in
theorem k_L_best (l : Launch) (hfl : l.stackTraces = false) (Z : ZT) (hZ : wD Z) (X M O : SS) (p1 : Int32) (p2 : Int32) (Xz : SS) (Oz : SS) (r : Int32) (hf : f_L_best X O p1 p2 = some (Xz, Oz, r)) (sz : Nat) : vx_Met l yL_best ws_L_best rm_L_best (va_Pc [.ref (Z.2.2 0 0), .int p1, .int p2, .ref (Z.2.2 56 0)] (cP Z (X, M, O) sz)) (cQi Z (Xz, M, Oz) (.inl r) sz) (cX Z (Xz, M, Oz) (.inl r : Int32 ⊕ String) sz) 3 18 (wA Z sz) := by
  refine vx_ofWH (cc := cL_best) (maxL := 5) (ret := (some .int)) (hh := [(0, 10, 13, 28), (0, 10, 17, 47)]) (by decide) rfl ?_
  intro p e s m args below meth c s₁ B hml hv
  obtain ⟨hargs, hsz, hE, hP, hK⟩ := hv
  have hx := B.exec
  have hb := B.bytes
  have hr := B.returns
  have hts0 := atoms_spec (ws := ws_L_best) B.pre
  have hts : ∀ w ∈ lw_all, w.before args s = true := fun w h => hts0 w (List.mem_cons_of_mem _ h)
  have hown : s.vm.findClass RL = some m.cls := findClass_of_methodNamed B.named
  have hlocks := B.notSynchronized
  have htab := vx_table (x := yL_best) B (hts0 (.codeWith yL_best cL_best 5 (some .int) [(0, 10, 13, 28), (0, 10, 17, 47)]) List.mem_cons_self)
  subst hsz
  have hS : va_S (wA Z s.heap.size) s.heap s.heap [] := va_S.rf
  have hl := lv_entry ([.ref (Z.2.2 0 0), .int p1, .int p2, .ref (Z.2.2 56 0)]) (n := 5) (Nat.le_of_ble_eq_true rfl)
  have hen : entryFrame m args 5 = entryFrame m ([.ref (Z.2.2 0 0), .int p1, .int p2, .ref (Z.2.2 56 0)] : List Value).toArray 5 := by rw [hargs]
  rw [hen, lg_entry_eq]
  generalize (lg_sl ([.ref (Z.2.2 0 0), .int p1, .int p2, .ref (Z.2.2 56 0)]) ++ List.replicate (5 - (lg_sl ([.ref (Z.2.2 0 0), .int p1, .int p2, .ref (Z.2.2 56 0)])).length) Slot.unset).toArray = ls at hl ⊢
  have hl : lv_has ls 5 [(0, .ref (Z.2.2 0 0)), (1, .int p1), (2, .int p2), (3, .ref (Z.2.2 56 0))] := hl
  have hk := hf
  unfold f_L_best at hk
  refine lv_aload_n hx hb dL_best_0 rfl (lv_at hl 3 rfl) ?_
  refine lv_iconst (v := (0 : Int32)) hx hb dL_best_1 (by decide) ?_
  refine lv_aload_n hx hb dL_best_2 rfl (lv_at hl 0 rfl) ?_
  refine lv_iload_n hx hb dL_best_3 rfl (lv_at hl 1 rfl) ?_
  refine lv_iload_n hx hb dL_best_4 rfl (lv_at hl 2 rfl) ?_
  obtain ⟨X2, o4, hf3, hn6, he7⟩ := e1_s hk
  refine wc_iV (rest := [.int (0 : Int32), .ref (Z.2.2 56 0)]) (As := [.int p1, .int p2]) ⟨hx, hb, hml, hown, hts⟩ (fun sz => k_X6_best l hfl Z hZ X M O p1 p2 X2 o4 hf3 sz) (cw_RL_109 (args := args) (s := s) hts (Nat.le_of_ble_eq_true rfl) (Nat.le_of_ble_eq_true rfl)) hE hP hK hS (rv_0 hK hP (by decide)) rfl hl.1 rfl (Nat.le_of_ble_eq_true rfl) dL_best_5 ⟨Nat.le_of_ble_eq_true rfl, Nat.le_of_ble_eq_true rfl⟩ (fun E5 ce9 q9 H locs hoE hP hS hc9 hv9 hcl9 => ?_) (fun v1 H locs ho hP hS => ?_)
  · have hk := he7 _ hoE
    by_cases cz8 : E5 = "java/lang/IndexOutOfBoundsException"
    · have hk := it_t cz8 hk
      subst cz8
      refine vx_catch hown [] ⟨0, 10, 13, 28⟩ [⟨0, 10, 17, 47⟩] (htab.trans rfl) (fun z hz => nomatch hz) (by decide) (by decide) (hts _ q753) (EV.cast hE (by decide +kernel)) hc9 hv9 hcl9 ?_
      refine lv_astore (lv' := [(4, .ref q9), (0, .ref (Z.2.2 0 0)), (1, .int p1), (2, .int p2), (3, .ref (Z.2.2 56 0))]) hx hb dL_best_13 hl (by decide) rfl (fun ls hl => ?_)
      refine lv_iconst (v := (1 : Int32)) hx hb dL_best_15 (by decide) ?_
      cases (show some _ = some _ from hk)
      exact we_i hx hb hr hlocks hP rfl hS dL_best_16 (by decide) (by decide)
    have hk := it_f cz8 hk
    by_cases cz9 : E5 = "java/util/NoSuchElementException"
    · have hk := it_t cz9 hk
      subst cz9
      refine vx_catch hown [⟨0, 10, 13, 28⟩] ⟨0, 10, 17, 47⟩ [] (htab.trans rfl) (by intro z hz; simp only [List.mem_cons, List.not_mem_nil, or_false] at hz; rcases hz with rfl <;> first | exact Or.inr ⟨by decide, "java/lang/IndexOutOfBoundsException", hts _ q753, EV.nc hE (by decide +kernel)⟩) (by decide) (by decide) (hts _ q857) (EV.cast hE (by decide +kernel)) hc9 hv9 hcl9 ?_
      refine lv_astore (lv' := [(4, .ref q9), (0, .ref (Z.2.2 0 0)), (1, .int p1), (2, .int p2), (3, .ref (Z.2.2 56 0))]) hx hb dL_best_17 hl (by decide) rfl (fun ls hl => ?_)
      refine lv_iconst (v := (2 : Int32)) hx hb dL_best_19 (by decide) ?_
      cases (show some _ = some _ from hk)
      exact we_i hx hb hr hlocks hP rfl hS dL_best_20 (by decide) (by decide)
    have hk := it_f cz9 hk
    exact nomatch (show none = some _ from hk)
  have hk := hn6 _ ho
  refine lv_i2l (v := (v1).toInt64) hx hb dL_best_8 rfl ?_
  obtain ⟨O10, eO10, hk⟩ := lq_s hk
  refine wa_lastore_56 hx hb hZ hK hP hS (by decide) (by unfold vp_in; decide) dL_best_9 (fun H locs hP hS => ?_)
  rw [← eO10] at hP
  refine lv_goto (tgt := 21) hx hb dL_best_10 (by decide) ?_
  refine lv_iconst (v := (0 : Int32)) hx hb dL_best_21 (by decide) ?_
  cases (show some _ = some _ from hk)
  exact we_i hx hb hr hlocks hP rfl hS dL_best_22 (by decide) (by decide)
set_option maxHeartbeats 4000000 in
set_option maxRecDepth 100000 in
theorem k_L_points (l : Launch) (hfl : l.stackTraces = false) (Z : ZT) (hZ : wD Z) (X M O : SS) (p1 : Int32) (Xz : SS) (Oz : SS) (r : Int32) (hf : f_L_points X O p1 = some (Xz, Oz, r)) (sz : Nat) : vx_Met l yL_points ws_L_points rm_L_points (va_Pc [.ref (Z.2.2 0 0), .int p1, .ref (Z.2.2 57 0)] (cP Z (X, M, O) sz)) (cQi Z (Xz, M, Oz) (.inl r) sz) (cX Z (Xz, M, Oz) (.inl r : Int32 ⊕ String) sz) 1 6 (wA Z sz) := by
  refine vx_ofWH (cc := cL_points) (maxL := 4) (ret := (some .int)) (hh := [(0, 9, 12, 28)]) (by decide) rfl ?_
  intro p e s m args below meth c s₁ B hml hv
  obtain ⟨hargs, hsz, hE, hP, hK⟩ := hv
  have hx := B.exec
  have hb := B.bytes
  have hr := B.returns
  have hts0 := atoms_spec (ws := ws_L_points) B.pre
  have hts : ∀ w ∈ lw_all, w.before args s = true := fun w h => hts0 w (List.mem_cons_of_mem _ h)
  have hown : s.vm.findClass RL = some m.cls := findClass_of_methodNamed B.named
  have hlocks := B.notSynchronized
  have htab := vx_table (x := yL_points) B (hts0 (.codeWith yL_points cL_points 4 (some .int) [(0, 9, 12, 28)]) List.mem_cons_self)
  subst hsz
  have hS : va_S (wA Z s.heap.size) s.heap s.heap [] := va_S.rf
  have hl := lv_entry ([.ref (Z.2.2 0 0), .int p1, .ref (Z.2.2 57 0)]) (n := 4) (Nat.le_of_ble_eq_true rfl)
  have hen : entryFrame m args 4 = entryFrame m ([.ref (Z.2.2 0 0), .int p1, .ref (Z.2.2 57 0)] : List Value).toArray 4 := by rw [hargs]
  rw [hen, lg_entry_eq]
  generalize (lg_sl ([.ref (Z.2.2 0 0), .int p1, .ref (Z.2.2 57 0)]) ++ List.replicate (4 - (lg_sl ([.ref (Z.2.2 0 0), .int p1, .ref (Z.2.2 57 0)])).length) Slot.unset).toArray = ls at hl ⊢
  have hl : lv_has ls 4 [(0, .ref (Z.2.2 0 0)), (1, .int p1), (2, .ref (Z.2.2 57 0))] := hl
  have hk := hf
  unfold f_L_points at hk
  refine lv_aload_n hx hb dL_points_0 rfl (lv_at hl 2 rfl) ?_
  refine lv_iconst (v := (0 : Int32)) hx hb dL_points_1 (by decide) ?_
  refine lv_aload_n hx hb dL_points_2 rfl (lv_at hl 0 rfl) ?_
  refine lv_iload_n hx hb dL_points_3 rfl (lv_at hl 1 rfl) ?_
  obtain ⟨X2, o4, hf3, hn6, he7⟩ := e1_s hk
  refine wc_fV (rest := [.int (0 : Int32), .ref (Z.2.2 57 0)]) (As := [.int p1]) ⟨hx, hb, hml, hown, hts⟩ (fun sz => k_X6_points l hfl Z hZ X M O p1 X2 o4 hf3 sz) (cw_RL_112 (args := args) (s := s) hts (Nat.le_of_ble_eq_true rfl) (Nat.le_of_ble_eq_true rfl)) hE hP hK hS (rv_0 hK hP (by decide)) rfl hl.1 rfl (Nat.le_of_ble_eq_true rfl) dL_points_4 ⟨Nat.le_of_ble_eq_true rfl, Nat.le_of_ble_eq_true rfl⟩ (fun E5 ce9 q9 H locs hoE hP hS hc9 hv9 hcl9 => ?_) (fun v1 H locs ho hP hS => ?_)
  · have hk := he7 _ hoE
    by_cases cz8 : E5 = "java/lang/IndexOutOfBoundsException"
    · have hk := it_t cz8 hk
      subst cz8
      refine vx_catch hown [] ⟨0, 9, 12, 28⟩ [] (htab.trans rfl) (fun z hz => nomatch hz) (by decide) (by decide) (hts _ q753) (EV.cast hE (by decide +kernel)) hc9 hv9 hcl9 ?_
      refine lv_astore_n (lv' := [(3, .ref q9), (0, .ref (Z.2.2 0 0)), (1, .int p1), (2, .ref (Z.2.2 57 0))]) hx hb dL_points_12 rfl hl (by decide) rfl (fun ls hl => ?_)
      refine lv_iconst (v := (1 : Int32)) hx hb dL_points_13 (by decide) ?_
      cases (show some _ = some _ from hk)
      exact we_i hx hb hr hlocks hP rfl hS dL_points_14 (by decide) (by decide)
    have hk := it_f cz8 hk
    exact nomatch (show none = some _ from hk)
  have hk := hn6 _ ho
  obtain ⟨hg9, hk⟩ := gd_s hk
  refine lv_f2d hx hb dL_points_7 hg9 ?_
  obtain ⟨O10, eO10, hk⟩ := lq_s hk
  refine wa_dastore_57 hx hb hZ hK hP hS (by decide) (by unfold vp_in; decide) dL_points_8 (fun H locs hP hS => ?_)
  rw [← eO10] at hP
  refine lv_goto (tgt := 15) hx hb dL_points_9 (by decide) ?_
  refine lv_iconst (v := (0 : Int32)) hx hb dL_points_15 (by decide) ?_
  cases (show some _ = some _ from hk)
  exact we_i hx hb hr hlocks hP rfl hS dL_points_16 (by decide) (by decide)
set_option maxHeartbeats 4000000 in
set_option maxRecDepth 100000 in
theorem k_L_belt (l : Launch) (hfl : l.stackTraces = false) (Z : ZT) (hZ : wD Z) (X M O : SS) (p1 : Int32) (Xz : SS) (Oz : SS) (r : Int32) (hf : f_L_belt X O p1 = some (Xz, Oz, r)) (sz : Nat) : vx_Met l yL_belt ws_L_belt rm_L_belt (va_Pc [.ref (Z.2.2 0 0), .int p1, .ref (Z.2.2 56 0)] (cP Z (X, M, O) sz)) (cQi Z (Xz, M, Oz) (.inl r) sz) (cX Z (Xz, M, Oz) (.inl r : Int32 ⊕ String) sz) 1 6 (wA Z sz) := by
  refine vx_ofWH (cc := cL_belt) (maxL := 4) (ret := (some .int)) (hh := [(0, 9, 12, 28)]) (by decide) rfl ?_
  intro p e s m args below meth c s₁ B hml hv
  obtain ⟨hargs, hsz, hE, hP, hK⟩ := hv
  have hx := B.exec
  have hb := B.bytes
  have hr := B.returns
  have hts0 := atoms_spec (ws := ws_L_belt) B.pre
  have hts : ∀ w ∈ lw_all, w.before args s = true := fun w h => hts0 w (List.mem_cons_of_mem _ h)
  have hown : s.vm.findClass RL = some m.cls := findClass_of_methodNamed B.named
  have hlocks := B.notSynchronized
  have htab := vx_table (x := yL_belt) B (hts0 (.codeWith yL_belt cL_belt 4 (some .int) [(0, 9, 12, 28)]) List.mem_cons_self)
  subst hsz
  have hS : va_S (wA Z s.heap.size) s.heap s.heap [] := va_S.rf
  have hl := lv_entry ([.ref (Z.2.2 0 0), .int p1, .ref (Z.2.2 56 0)]) (n := 4) (Nat.le_of_ble_eq_true rfl)
  have hen : entryFrame m args 4 = entryFrame m ([.ref (Z.2.2 0 0), .int p1, .ref (Z.2.2 56 0)] : List Value).toArray 4 := by rw [hargs]
  rw [hen, lg_entry_eq]
  generalize (lg_sl ([.ref (Z.2.2 0 0), .int p1, .ref (Z.2.2 56 0)]) ++ List.replicate (4 - (lg_sl ([.ref (Z.2.2 0 0), .int p1, .ref (Z.2.2 56 0)])).length) Slot.unset).toArray = ls at hl ⊢
  have hl : lv_has ls 4 [(0, .ref (Z.2.2 0 0)), (1, .int p1), (2, .ref (Z.2.2 56 0))] := hl
  have hk := hf
  unfold f_L_belt at hk
  refine lv_aload_n hx hb dL_belt_0 rfl (lv_at hl 2 rfl) ?_
  refine lv_iconst (v := (0 : Int32)) hx hb dL_belt_1 (by decide) ?_
  refine lv_aload_n hx hb dL_belt_2 rfl (lv_at hl 0 rfl) ?_
  refine lv_iload_n hx hb dL_belt_3 rfl (lv_at hl 1 rfl) ?_
  obtain ⟨X2, o4, hf3, hn6, he7⟩ := e1_s hk
  refine wc_iV (rest := [.int (0 : Int32), .ref (Z.2.2 56 0)]) (As := [.int p1]) ⟨hx, hb, hml, hown, hts⟩ (fun sz => k_X6_belt l hfl Z hZ X M O p1 X2 o4 hf3 sz) (cw_RL_116 (args := args) (s := s) hts (Nat.le_of_ble_eq_true rfl) (Nat.le_of_ble_eq_true rfl)) hE hP hK hS (rv_0 hK hP (by decide)) rfl hl.1 rfl (Nat.le_of_ble_eq_true rfl) dL_belt_4 ⟨Nat.le_of_ble_eq_true rfl, Nat.le_of_ble_eq_true rfl⟩ (fun E5 ce9 q9 H locs hoE hP hS hc9 hv9 hcl9 => ?_) (fun v1 H locs ho hP hS => ?_)
  · have hk := he7 _ hoE
    by_cases cz8 : E5 = "java/lang/IndexOutOfBoundsException"
    · have hk := it_t cz8 hk
      subst cz8
      refine vx_catch hown [] ⟨0, 9, 12, 28⟩ [] (htab.trans rfl) (fun z hz => nomatch hz) (by decide) (by decide) (hts _ q753) (EV.cast hE (by decide +kernel)) hc9 hv9 hcl9 ?_
      refine lv_astore_n (lv' := [(3, .ref q9), (0, .ref (Z.2.2 0 0)), (1, .int p1), (2, .ref (Z.2.2 56 0))]) hx hb dL_belt_12 rfl hl (by decide) rfl (fun ls hl => ?_)
      refine lv_iconst (v := (1 : Int32)) hx hb dL_belt_13 (by decide) ?_
      cases (show some _ = some _ from hk)
      exact we_i hx hb hr hlocks hP rfl hS dL_belt_14 (by decide) (by decide)
    have hk := it_f cz8 hk
    exact nomatch (show none = some _ from hk)
  have hk := hn6 _ ho
  refine lv_i2l (v := (v1).toInt64) hx hb dL_belt_7 rfl ?_
  obtain ⟨O9, eO9, hk⟩ := lq_s hk
  refine wa_lastore_56 hx hb hZ hK hP hS (by decide) (by unfold vp_in; decide) dL_belt_8 (fun H locs hP hS => ?_)
  rw [← eO9] at hP
  refine lv_goto (tgt := 15) hx hb dL_belt_9 (by decide) ?_
  refine lv_iconst (v := (0 : Int32)) hx hb dL_belt_15 (by decide) ?_
  cases (show some _ = some _ from hk)
  exact we_i hx hb hr hlocks hP rfl hS dL_belt_16 (by decide) (by decide)
set_option maxHeartbeats 4000000 in
set_option maxRecDepth 100000 in
theorem k_L_honour (l : Launch) (hfl : l.stackTraces = false) (Z : ZT) (hZ : wD Z) (X M O : SS) (p1 : Int32) (Oz : SS) (r : Int32) (hf : f_L_honour X O p1 = some (Oz, r)) (sz : Nat) : vx_Met l yL_honour ws_L_honour rm_L_honour (va_Pc [.ref (Z.2.2 0 0), .int p1, .ref (Z.2.2 56 0)] (cP Z (X, M, O) sz)) (cQi Z (X, M, Oz) (.inl r) sz) (cX Z (X, M, Oz) (.inl r : Int32 ⊕ String) sz) 1 6 (wA Z sz) := by
  refine vx_ofWH (cc := cL_honour) (maxL := 4) (ret := (some .int)) (hh := [(0, 9, 12, 28)]) (by decide) rfl ?_
  intro p e s m args below meth c s₁ B hml hv
  obtain ⟨hargs, hsz, hE, hP, hK⟩ := hv
  have hx := B.exec
  have hb := B.bytes
  have hr := B.returns
  have hts0 := atoms_spec (ws := ws_L_honour) B.pre
  have hts : ∀ w ∈ lw_all, w.before args s = true := fun w h => hts0 w (List.mem_cons_of_mem _ h)
  have hown : s.vm.findClass RL = some m.cls := findClass_of_methodNamed B.named
  have hlocks := B.notSynchronized
  have htab := vx_table (x := yL_honour) B (hts0 (.codeWith yL_honour cL_honour 4 (some .int) [(0, 9, 12, 28)]) List.mem_cons_self)
  subst hsz
  have hS : va_S (wA Z s.heap.size) s.heap s.heap [] := va_S.rf
  have hl := lv_entry ([.ref (Z.2.2 0 0), .int p1, .ref (Z.2.2 56 0)]) (n := 4) (Nat.le_of_ble_eq_true rfl)
  have hen : entryFrame m args 4 = entryFrame m ([.ref (Z.2.2 0 0), .int p1, .ref (Z.2.2 56 0)] : List Value).toArray 4 := by rw [hargs]
  rw [hen, lg_entry_eq]
  generalize (lg_sl ([.ref (Z.2.2 0 0), .int p1, .ref (Z.2.2 56 0)]) ++ List.replicate (4 - (lg_sl ([.ref (Z.2.2 0 0), .int p1, .ref (Z.2.2 56 0)])).length) Slot.unset).toArray = ls at hl ⊢
  have hl : lv_has ls 4 [(0, .ref (Z.2.2 0 0)), (1, .int p1), (2, .ref (Z.2.2 56 0))] := hl
  have hk := hf
  unfold f_L_honour at hk
  refine lv_aload_n hx hb dL_honour_0 rfl (lv_at hl 2 rfl) ?_
  refine lv_iconst (v := (0 : Int32)) hx hb dL_honour_1 (by decide) ?_
  refine lv_aload_n hx hb dL_honour_2 rfl (lv_at hl 0 rfl) ?_
  refine lv_iload_n hx hb dL_honour_3 rfl (lv_at hl 1 rfl) ?_
  obtain ⟨o3, hf2, hn5, he6⟩ := e0_s hk
  refine wc_iV (rest := [.int (0 : Int32), .ref (Z.2.2 56 0)]) (As := [.int p1]) ⟨hx, hb, hml, hown, hts⟩ (fun sz => k_X6_honour l hfl Z hZ X M O p1 o3 hf2 sz) (cw_RL_119 (args := args) (s := s) hts (Nat.le_of_ble_eq_true rfl) (Nat.le_of_ble_eq_true rfl)) hE hP hK hS (rv_0 hK hP (by decide)) rfl hl.1 rfl (Nat.le_of_ble_eq_true rfl) dL_honour_4 ⟨Nat.le_of_ble_eq_true rfl, Nat.le_of_ble_eq_true rfl⟩ (fun E4 ce9 q9 H locs hoE hP hS hc9 hv9 hcl9 => ?_) (fun v1 H locs ho hP hS => ?_)
  · have hk := he6 _ hoE
    by_cases cz7 : E4 = "java/lang/IndexOutOfBoundsException"
    · have hk := it_t cz7 hk
      subst cz7
      refine vx_catch hown [] ⟨0, 9, 12, 28⟩ [] (htab.trans rfl) (fun z hz => nomatch hz) (by decide) (by decide) (hts _ q753) (EV.cast hE (by decide +kernel)) hc9 hv9 hcl9 ?_
      refine lv_astore_n (lv' := [(3, .ref q9), (0, .ref (Z.2.2 0 0)), (1, .int p1), (2, .ref (Z.2.2 56 0))]) hx hb dL_honour_12 rfl hl (by decide) rfl (fun ls hl => ?_)
      refine lv_iconst (v := (1 : Int32)) hx hb dL_honour_13 (by decide) ?_
      cases (show some _ = some _ from hk)
      exact we_i hx hb hr hlocks hP rfl hS dL_honour_14 (by decide) (by decide)
    have hk := it_f cz7 hk
    exact nomatch (show none = some _ from hk)
  have hk := hn5 _ ho
  refine lv_i2l (v := (v1).toInt64) hx hb dL_honour_7 rfl ?_
  obtain ⟨O8, eO8, hk⟩ := lq_s hk
  refine wa_lastore_56 hx hb hZ hK hP hS (by decide) (by unfold vp_in; decide) dL_honour_8 (fun H locs hP hS => ?_)
  rw [← eO8] at hP
  refine lv_goto (tgt := 15) hx hb dL_honour_9 (by decide) ?_
  refine lv_iconst (v := (0 : Int32)) hx hb dL_honour_15 (by decide) ?_
  cases (show some _ = some _ from hk)
  exact we_i hx hb hr hlocks hP rfl hS dL_honour_16 (by decide) (by decide)
set_option maxHeartbeats 4000000 in
set_option maxRecDepth 100000 in
theorem k_L_ranked (l : Launch) (hfl : l.stackTraces = false) (Z : ZT) (hZ : wD Z) (X M O : SS) (p1 : Int32) (Xz : SS) (Oz : SS) (r : Int32) (hf : f_L_ranked X O p1 = some (Xz, Oz, r)) (sz : Nat) : vx_Met l yL_ranked ws_L_ranked rm_L_ranked (va_Pc [.ref (Z.2.2 0 0), .int p1, .ref (Z.2.2 56 0)] (cP Z (X, M, O) sz)) (cQi Z (Xz, M, Oz) (.inl r) sz) (cX Z (Xz, M, Oz) (.inl r : Int32 ⊕ String) sz) 1 6 (wA Z sz) := by
  refine vx_ofWH (cc := cL_ranked) (maxL := 4) (ret := (some .int)) (hh := [(0, 9, 12, 47)]) (by decide) rfl ?_
  intro p e s m args below meth c s₁ B hml hv
  obtain ⟨hargs, hsz, hE, hP, hK⟩ := hv
  have hx := B.exec
  have hb := B.bytes
  have hr := B.returns
  have hts0 := atoms_spec (ws := ws_L_ranked) B.pre
  have hts : ∀ w ∈ lw_all, w.before args s = true := fun w h => hts0 w (List.mem_cons_of_mem _ h)
  have hown : s.vm.findClass RL = some m.cls := findClass_of_methodNamed B.named
  have hlocks := B.notSynchronized
  have htab := vx_table (x := yL_ranked) B (hts0 (.codeWith yL_ranked cL_ranked 4 (some .int) [(0, 9, 12, 47)]) List.mem_cons_self)
  subst hsz
  have hS : va_S (wA Z s.heap.size) s.heap s.heap [] := va_S.rf
  have hl := lv_entry ([.ref (Z.2.2 0 0), .int p1, .ref (Z.2.2 56 0)]) (n := 4) (Nat.le_of_ble_eq_true rfl)
  have hen : entryFrame m args 4 = entryFrame m ([.ref (Z.2.2 0 0), .int p1, .ref (Z.2.2 56 0)] : List Value).toArray 4 := by rw [hargs]
  rw [hen, lg_entry_eq]
  generalize (lg_sl ([.ref (Z.2.2 0 0), .int p1, .ref (Z.2.2 56 0)]) ++ List.replicate (4 - (lg_sl ([.ref (Z.2.2 0 0), .int p1, .ref (Z.2.2 56 0)])).length) Slot.unset).toArray = ls at hl ⊢
  have hl : lv_has ls 4 [(0, .ref (Z.2.2 0 0)), (1, .int p1), (2, .ref (Z.2.2 56 0))] := hl
  have hk := hf
  unfold f_L_ranked at hk
  refine lv_aload_n hx hb dL_ranked_0 rfl (lv_at hl 2 rfl) ?_
  refine lv_iconst (v := (0 : Int32)) hx hb dL_ranked_1 (by decide) ?_
  refine lv_aload_n hx hb dL_ranked_2 rfl (lv_at hl 0 rfl) ?_
  refine lv_iload_n hx hb dL_ranked_3 rfl (lv_at hl 1 rfl) ?_
  obtain ⟨X2, o4, hf3, hn6, he7⟩ := e1_s hk
  refine wc_iV (rest := [.int (0 : Int32), .ref (Z.2.2 56 0)]) (As := [.int p1]) ⟨hx, hb, hml, hown, hts⟩ (fun sz => k_X6_ranked l hfl Z hZ X M O p1 X2 o4 hf3 sz) (cw_RL_122 (args := args) (s := s) hts (Nat.le_of_ble_eq_true rfl) (Nat.le_of_ble_eq_true rfl)) hE hP hK hS (rv_0 hK hP (by decide)) rfl hl.1 rfl (Nat.le_of_ble_eq_true rfl) dL_ranked_4 ⟨Nat.le_of_ble_eq_true rfl, Nat.le_of_ble_eq_true rfl⟩ (fun E5 ce9 q9 H locs hoE hP hS hc9 hv9 hcl9 => ?_) (fun v1 H locs ho hP hS => ?_)
  · have hk := he7 _ hoE
    by_cases cz8 : E5 = "java/util/NoSuchElementException"
    · have hk := it_t cz8 hk
      subst cz8
      refine vx_catch hown [] ⟨0, 9, 12, 47⟩ [] (htab.trans rfl) (fun z hz => nomatch hz) (by decide) (by decide) (hts _ q857) (EV.cast hE (by decide +kernel)) hc9 hv9 hcl9 ?_
      refine lv_astore_n (lv' := [(3, .ref q9), (0, .ref (Z.2.2 0 0)), (1, .int p1), (2, .ref (Z.2.2 56 0))]) hx hb dL_ranked_12 rfl hl (by decide) rfl (fun ls hl => ?_)
      refine lv_iconst (v := (1 : Int32)) hx hb dL_ranked_13 (by decide) ?_
      cases (show some _ = some _ from hk)
      exact we_i hx hb hr hlocks hP rfl hS dL_ranked_14 (by decide) (by decide)
    have hk := it_f cz8 hk
    exact nomatch (show none = some _ from hk)
  have hk := hn6 _ ho
  refine lv_i2l (v := (v1).toInt64) hx hb dL_ranked_7 rfl ?_
  obtain ⟨O9, eO9, hk⟩ := lq_s hk
  refine wa_lastore_56 hx hb hZ hK hP hS (by decide) (by unfold vp_in; decide) dL_ranked_8 (fun H locs hP hS => ?_)
  rw [← eO9] at hP
  refine lv_goto (tgt := 15) hx hb dL_ranked_9 (by decide) ?_
  refine lv_iconst (v := (0 : Int32)) hx hb dL_ranked_15 (by decide) ?_
  cases (show some _ = some _ from hk)
  exact we_i hx hb hr hlocks hP rfl hS dL_ranked_16 (by decide) (by decide)
set_option maxHeartbeats 4000000 in
set_option maxRecDepth 100000 in
theorem k_L_challenge (l : Launch) (hfl : l.stackTraces = false) (Z : ZT) (hZ : wD Z) (X M O : SS) (p1 : Int32) (p2 : Int32) (Xz : SS) (Oz : SS) (r : Int32) (hf : f_L_challenge X O p1 p2 = some (Xz, Oz, r)) (sz : Nat) : vx_Met l yL_challenge ws_L_challenge rm_L_challenge (va_Pc [.ref (Z.2.2 0 0), .int p1, .int p2, .ref (Z.2.2 56 0)] (cP Z (X, M, O) sz)) (cQi Z (Xz, M, Oz) (.inl r) sz) (cX Z (Xz, M, Oz) (.inl r : Int32 ⊕ String) sz) 3 18 (wA Z sz) := by
  refine vx_ofWH (cc := cL_challenge) (maxL := 5) (ret := (some .int)) (hh := [(0, 10, 13, 28), (0, 10, 17, 41), (0, 10, 21, 15)]) (by decide) rfl ?_
  intro p e s m args below meth c s₁ B hml hv
  obtain ⟨hargs, hsz, hE, hP, hK⟩ := hv
  have hx := B.exec
  have hb := B.bytes
  have hr := B.returns
  have hts0 := atoms_spec (ws := ws_L_challenge) B.pre
  have hts : ∀ w ∈ lw_all, w.before args s = true := fun w h => hts0 w (List.mem_cons_of_mem _ h)
  have hown : s.vm.findClass RL = some m.cls := findClass_of_methodNamed B.named
  have hlocks := B.notSynchronized
  have htab := vx_table (x := yL_challenge) B (hts0 (.codeWith yL_challenge cL_challenge 5 (some .int) [(0, 10, 13, 28), (0, 10, 17, 41), (0, 10, 21, 15)]) List.mem_cons_self)
  subst hsz
  have hS : va_S (wA Z s.heap.size) s.heap s.heap [] := va_S.rf
  have hl := lv_entry ([.ref (Z.2.2 0 0), .int p1, .int p2, .ref (Z.2.2 56 0)]) (n := 5) (Nat.le_of_ble_eq_true rfl)
  have hen : entryFrame m args 5 = entryFrame m ([.ref (Z.2.2 0 0), .int p1, .int p2, .ref (Z.2.2 56 0)] : List Value).toArray 5 := by rw [hargs]
  rw [hen, lg_entry_eq]
  generalize (lg_sl ([.ref (Z.2.2 0 0), .int p1, .int p2, .ref (Z.2.2 56 0)]) ++ List.replicate (5 - (lg_sl ([.ref (Z.2.2 0 0), .int p1, .int p2, .ref (Z.2.2 56 0)])).length) Slot.unset).toArray = ls at hl ⊢
  have hl : lv_has ls 5 [(0, .ref (Z.2.2 0 0)), (1, .int p1), (2, .int p2), (3, .ref (Z.2.2 56 0))] := hl
  have hk := hf
  unfold f_L_challenge at hk
  refine lv_aload_n hx hb dL_challenge_0 rfl (lv_at hl 3 rfl) ?_
  refine lv_iconst (v := (0 : Int32)) hx hb dL_challenge_1 (by decide) ?_
  refine lv_aload_n hx hb dL_challenge_2 rfl (lv_at hl 0 rfl) ?_
  refine lv_iload_n hx hb dL_challenge_3 rfl (lv_at hl 1 rfl) ?_
  refine lv_iload_n hx hb dL_challenge_4 rfl (lv_at hl 2 rfl) ?_
  obtain ⟨X2, o4, hf3, hn6, he7⟩ := e1_s hk
  refine wc_iV (rest := [.int (0 : Int32), .ref (Z.2.2 56 0)]) (As := [.int p1, .int p2]) ⟨hx, hb, hml, hown, hts⟩ (fun sz => k_X6_challenge l hfl Z hZ X M O p1 p2 X2 o4 hf3 sz) (cw_RL_125 (args := args) (s := s) hts (Nat.le_of_ble_eq_true rfl) (Nat.le_of_ble_eq_true rfl)) hE hP hK hS (rv_0 hK hP (by decide)) rfl hl.1 rfl (Nat.le_of_ble_eq_true rfl) dL_challenge_5 ⟨Nat.le_of_ble_eq_true rfl, Nat.le_of_ble_eq_true rfl⟩ (fun E5 ce9 q9 H locs hoE hP hS hc9 hv9 hcl9 => ?_) (fun v1 H locs ho hP hS => ?_)
  · have hk := he7 _ hoE
    by_cases cz8 : E5 = "java/lang/IndexOutOfBoundsException"
    · have hk := it_t cz8 hk
      subst cz8
      refine vx_catch hown [] ⟨0, 10, 13, 28⟩ [⟨0, 10, 17, 41⟩, ⟨0, 10, 21, 15⟩] (htab.trans rfl) (fun z hz => nomatch hz) (by decide) (by decide) (hts _ q753) (EV.cast hE (by decide +kernel)) hc9 hv9 hcl9 ?_
      refine lv_astore (lv' := [(4, .ref q9), (0, .ref (Z.2.2 0 0)), (1, .int p1), (2, .int p2), (3, .ref (Z.2.2 56 0))]) hx hb dL_challenge_13 hl (by decide) rfl (fun ls hl => ?_)
      refine lv_iconst (v := (1 : Int32)) hx hb dL_challenge_15 (by decide) ?_
      cases (show some _ = some _ from hk)
      exact we_i hx hb hr hlocks hP rfl hS dL_challenge_16 (by decide) (by decide)
    have hk := it_f cz8 hk
    by_cases cz9 : E5 = "java/lang/UnsupportedOperationException"
    · have hk := it_t cz9 hk
      subst cz9
      refine vx_catch hown [⟨0, 10, 13, 28⟩] ⟨0, 10, 17, 41⟩ [⟨0, 10, 21, 15⟩] (htab.trans rfl) (by intro z hz; simp only [List.mem_cons, List.not_mem_nil, or_false] at hz; rcases hz with rfl <;> first | exact Or.inr ⟨by decide, "java/lang/IndexOutOfBoundsException", hts _ q753, EV.nc hE (by decide +kernel)⟩) (by decide) (by decide) (hts _ q829) (EV.cast hE (by decide +kernel)) hc9 hv9 hcl9 ?_
      refine lv_astore (lv' := [(4, .ref q9), (0, .ref (Z.2.2 0 0)), (1, .int p1), (2, .int p2), (3, .ref (Z.2.2 56 0))]) hx hb dL_challenge_17 hl (by decide) rfl (fun ls hl => ?_)
      refine lv_iconst (v := (2 : Int32)) hx hb dL_challenge_19 (by decide) ?_
      cases (show some _ = some _ from hk)
      exact we_i hx hb hr hlocks hP rfl hS dL_challenge_20 (by decide) (by decide)
    have hk := it_f cz9 hk
    by_cases cz10 : E5 = "java/lang/IllegalStateException"
    · have hk := it_t cz10 hk
      subst cz10
      refine vx_catch hown [⟨0, 10, 13, 28⟩, ⟨0, 10, 17, 41⟩] ⟨0, 10, 21, 15⟩ [] (htab.trans rfl) (by intro z hz; simp only [List.mem_cons, List.not_mem_nil, or_false] at hz; rcases hz with rfl | rfl <;> first | exact Or.inr ⟨by decide, "java/lang/IndexOutOfBoundsException", hts _ q753, EV.nc hE (by decide +kernel)⟩ | exact Or.inr ⟨by decide, "java/lang/UnsupportedOperationException", hts _ q829, EV.nc hE (by decide +kernel)⟩) (by decide) (by decide) (hts _ q537) (EV.cast hE (by decide +kernel)) hc9 hv9 hcl9 ?_
      refine lv_astore (lv' := [(4, .ref q9), (0, .ref (Z.2.2 0 0)), (1, .int p1), (2, .int p2), (3, .ref (Z.2.2 56 0))]) hx hb dL_challenge_21 hl (by decide) rfl (fun ls hl => ?_)
      refine lv_iconst (v := (3 : Int32)) hx hb dL_challenge_23 (by decide) ?_
      cases (show some _ = some _ from hk)
      exact we_i hx hb hr hlocks hP rfl hS dL_challenge_24 (by decide) (by decide)
    have hk := it_f cz10 hk
    exact nomatch (show none = some _ from hk)
  have hk := hn6 _ ho
  refine lv_i2l (v := (v1).toInt64) hx hb dL_challenge_8 rfl ?_
  obtain ⟨O11, eO11, hk⟩ := lq_s hk
  refine wa_lastore_56 hx hb hZ hK hP hS (by decide) (by unfold vp_in; decide) dL_challenge_9 (fun H locs hP hS => ?_)
  rw [← eO11] at hP
  refine lv_goto (tgt := 25) hx hb dL_challenge_10 (by decide) ?_
  refine lv_iconst (v := (0 : Int32)) hx hb dL_challenge_25 (by decide) ?_
  cases (show some _ = some _ from hk)
  exact we_i hx hb hr hlocks hP rfl hS dL_challenge_26 (by decide) (by decide)
set_option maxHeartbeats 4000000 in
set_option maxRecDepth 100000 in
theorem k_L_give (l : Launch) (hfl : l.stackTraces = false) (Z : ZT) (hZ : wD Z) (X M O : SS) (p1 : Int32) (p2 : Int32) (Xz : SS) (Oz : SS) (r : Int32) (hf : f_L_give X O p1 p2 = some (Xz, Oz, r)) (sz : Nat) : vx_Met l yL_give ws_L_give rm_L_give (va_Pc [.ref (Z.2.2 0 0), .int p1, .int p2, .ref (Z.2.2 56 0)] (cP Z (X, M, O) sz)) (cQi Z (Xz, M, Oz) (.inl r) sz) (cX Z (Xz, M, Oz) (.inl r : Int32 ⊕ String) sz) 3 18 (wA Z sz) := by
  refine vx_ofWH (cc := cL_give) (maxL := 5) (ret := (some .int)) (hh := [(0, 10, 13, 28), (0, 10, 17, 41), (0, 10, 21, 47)]) (by decide) rfl ?_
  intro p e s m args below meth c s₁ B hml hv
  obtain ⟨hargs, hsz, hE, hP, hK⟩ := hv
  have hx := B.exec
  have hb := B.bytes
  have hr := B.returns
  have hts0 := atoms_spec (ws := ws_L_give) B.pre
  have hts : ∀ w ∈ lw_all, w.before args s = true := fun w h => hts0 w (List.mem_cons_of_mem _ h)
  have hown : s.vm.findClass RL = some m.cls := findClass_of_methodNamed B.named
  have hlocks := B.notSynchronized
  have htab := vx_table (x := yL_give) B (hts0 (.codeWith yL_give cL_give 5 (some .int) [(0, 10, 13, 28), (0, 10, 17, 41), (0, 10, 21, 47)]) List.mem_cons_self)
  subst hsz
  have hS : va_S (wA Z s.heap.size) s.heap s.heap [] := va_S.rf
  have hl := lv_entry ([.ref (Z.2.2 0 0), .int p1, .int p2, .ref (Z.2.2 56 0)]) (n := 5) (Nat.le_of_ble_eq_true rfl)
  have hen : entryFrame m args 5 = entryFrame m ([.ref (Z.2.2 0 0), .int p1, .int p2, .ref (Z.2.2 56 0)] : List Value).toArray 5 := by rw [hargs]
  rw [hen, lg_entry_eq]
  generalize (lg_sl ([.ref (Z.2.2 0 0), .int p1, .int p2, .ref (Z.2.2 56 0)]) ++ List.replicate (5 - (lg_sl ([.ref (Z.2.2 0 0), .int p1, .int p2, .ref (Z.2.2 56 0)])).length) Slot.unset).toArray = ls at hl ⊢
  have hl : lv_has ls 5 [(0, .ref (Z.2.2 0 0)), (1, .int p1), (2, .int p2), (3, .ref (Z.2.2 56 0))] := hl
  have hk := hf
  unfold f_L_give at hk
  refine lv_aload_n hx hb dL_give_0 rfl (lv_at hl 3 rfl) ?_
  refine lv_iconst (v := (0 : Int32)) hx hb dL_give_1 (by decide) ?_
  refine lv_aload_n hx hb dL_give_2 rfl (lv_at hl 0 rfl) ?_
  refine lv_iload_n hx hb dL_give_3 rfl (lv_at hl 1 rfl) ?_
  refine lv_iload_n hx hb dL_give_4 rfl (lv_at hl 2 rfl) ?_
  obtain ⟨X2, o4, hf3, hn6, he7⟩ := e1_s hk
  refine wc_iV (rest := [.int (0 : Int32), .ref (Z.2.2 56 0)]) (As := [.int p1, .int p2]) ⟨hx, hb, hml, hown, hts⟩ (fun sz => k_X6_give l hfl Z hZ X M O p1 p2 X2 o4 hf3 sz) (cw_RL_128 (args := args) (s := s) hts (Nat.le_of_ble_eq_true rfl) (Nat.le_of_ble_eq_true rfl)) hE hP hK hS (rv_0 hK hP (by decide)) rfl hl.1 rfl (Nat.le_of_ble_eq_true rfl) dL_give_5 ⟨Nat.le_of_ble_eq_true rfl, Nat.le_of_ble_eq_true rfl⟩ (fun E5 ce9 q9 H locs hoE hP hS hc9 hv9 hcl9 => ?_) (fun v1 H locs ho hP hS => ?_)
  · have hk := he7 _ hoE
    by_cases cz8 : E5 = "java/lang/IndexOutOfBoundsException"
    · have hk := it_t cz8 hk
      subst cz8
      refine vx_catch hown [] ⟨0, 10, 13, 28⟩ [⟨0, 10, 17, 41⟩, ⟨0, 10, 21, 47⟩] (htab.trans rfl) (fun z hz => nomatch hz) (by decide) (by decide) (hts _ q753) (EV.cast hE (by decide +kernel)) hc9 hv9 hcl9 ?_
      refine lv_astore (lv' := [(4, .ref q9), (0, .ref (Z.2.2 0 0)), (1, .int p1), (2, .int p2), (3, .ref (Z.2.2 56 0))]) hx hb dL_give_13 hl (by decide) rfl (fun ls hl => ?_)
      refine lv_iconst (v := (1 : Int32)) hx hb dL_give_15 (by decide) ?_
      cases (show some _ = some _ from hk)
      exact we_i hx hb hr hlocks hP rfl hS dL_give_16 (by decide) (by decide)
    have hk := it_f cz8 hk
    by_cases cz9 : E5 = "java/lang/UnsupportedOperationException"
    · have hk := it_t cz9 hk
      subst cz9
      refine vx_catch hown [⟨0, 10, 13, 28⟩] ⟨0, 10, 17, 41⟩ [⟨0, 10, 21, 47⟩] (htab.trans rfl) (by intro z hz; simp only [List.mem_cons, List.not_mem_nil, or_false] at hz; rcases hz with rfl <;> first | exact Or.inr ⟨by decide, "java/lang/IndexOutOfBoundsException", hts _ q753, EV.nc hE (by decide +kernel)⟩) (by decide) (by decide) (hts _ q829) (EV.cast hE (by decide +kernel)) hc9 hv9 hcl9 ?_
      refine lv_astore (lv' := [(4, .ref q9), (0, .ref (Z.2.2 0 0)), (1, .int p1), (2, .int p2), (3, .ref (Z.2.2 56 0))]) hx hb dL_give_17 hl (by decide) rfl (fun ls hl => ?_)
      refine lv_iconst (v := (2 : Int32)) hx hb dL_give_19 (by decide) ?_
      cases (show some _ = some _ from hk)
      exact we_i hx hb hr hlocks hP rfl hS dL_give_20 (by decide) (by decide)
    have hk := it_f cz9 hk
    by_cases cz10 : E5 = "java/util/NoSuchElementException"
    · have hk := it_t cz10 hk
      subst cz10
      refine vx_catch hown [⟨0, 10, 13, 28⟩, ⟨0, 10, 17, 41⟩] ⟨0, 10, 21, 47⟩ [] (htab.trans rfl) (by intro z hz; simp only [List.mem_cons, List.not_mem_nil, or_false] at hz; rcases hz with rfl | rfl <;> first | exact Or.inr ⟨by decide, "java/lang/IndexOutOfBoundsException", hts _ q753, EV.nc hE (by decide +kernel)⟩ | exact Or.inr ⟨by decide, "java/lang/UnsupportedOperationException", hts _ q829, EV.nc hE (by decide +kernel)⟩) (by decide) (by decide) (hts _ q857) (EV.cast hE (by decide +kernel)) hc9 hv9 hcl9 ?_
      refine lv_astore (lv' := [(4, .ref q9), (0, .ref (Z.2.2 0 0)), (1, .int p1), (2, .int p2), (3, .ref (Z.2.2 56 0))]) hx hb dL_give_21 hl (by decide) rfl (fun ls hl => ?_)
      refine lv_iconst (v := (3 : Int32)) hx hb dL_give_23 (by decide) ?_
      cases (show some _ = some _ from hk)
      exact we_i hx hb hr hlocks hP rfl hS dL_give_24 (by decide) (by decide)
    have hk := it_f cz10 hk
    exact nomatch (show none = some _ from hk)
  have hk := hn6 _ ho
  refine lv_i2l (v := (v1).toInt64) hx hb dL_give_8 rfl ?_
  obtain ⟨O11, eO11, hk⟩ := lq_s hk
  refine wa_lastore_56 hx hb hZ hK hP hS (by decide) (by unfold vp_in; decide) dL_give_9 (fun H locs hP hS => ?_)
  rw [← eO11] at hP
  refine lv_goto (tgt := 25) hx hb dL_give_10 (by decide) ?_
  refine lv_iconst (v := (0 : Int32)) hx hb dL_give_25 (by decide) ?_
  cases (show some _ = some _ from hk)
  exact we_i hx hb hr hlocks hP rfl hS dL_give_26 (by decide) (by decide)
set_option maxHeartbeats 4000000 in
set_option maxRecDepth 100000 in
theorem k_L_answer (l : Launch) (hfl : l.stackTraces = false) (Z : ZT) (hZ : wD Z) (X M O : SS) (p1 : Int32) (p2 : Int32) (Xz : SS) (Oz : SS) (r : Int32) (hf : f_L_answer X O p1 p2 = some (Xz, Oz, r)) (sz : Nat) : vx_Met l yL_answer ws_L_answer rm_L_answer (va_Pc [.ref (Z.2.2 0 0), .int p1, .int p2, .ref (Z.2.2 56 0)] (cP Z (X, M, O) sz)) (cQi Z (Xz, M, Oz) (.inl r) sz) (cX Z (Xz, M, Oz) (.inl r : Int32 ⊕ String) sz) 3 18 (wA Z sz) := by
  refine vx_ofWH (cc := cL_answer) (maxL := 5) (ret := (some .int)) (hh := [(0, 10, 13, 28), (0, 10, 17, 41)]) (by decide) rfl ?_
  intro p e s m args below meth c s₁ B hml hv
  obtain ⟨hargs, hsz, hE, hP, hK⟩ := hv
  have hx := B.exec
  have hb := B.bytes
  have hr := B.returns
  have hts0 := atoms_spec (ws := ws_L_answer) B.pre
  have hts : ∀ w ∈ lw_all, w.before args s = true := fun w h => hts0 w (List.mem_cons_of_mem _ h)
  have hown : s.vm.findClass RL = some m.cls := findClass_of_methodNamed B.named
  have hlocks := B.notSynchronized
  have htab := vx_table (x := yL_answer) B (hts0 (.codeWith yL_answer cL_answer 5 (some .int) [(0, 10, 13, 28), (0, 10, 17, 41)]) List.mem_cons_self)
  subst hsz
  have hS : va_S (wA Z s.heap.size) s.heap s.heap [] := va_S.rf
  have hl := lv_entry ([.ref (Z.2.2 0 0), .int p1, .int p2, .ref (Z.2.2 56 0)]) (n := 5) (Nat.le_of_ble_eq_true rfl)
  have hen : entryFrame m args 5 = entryFrame m ([.ref (Z.2.2 0 0), .int p1, .int p2, .ref (Z.2.2 56 0)] : List Value).toArray 5 := by rw [hargs]
  rw [hen, lg_entry_eq]
  generalize (lg_sl ([.ref (Z.2.2 0 0), .int p1, .int p2, .ref (Z.2.2 56 0)]) ++ List.replicate (5 - (lg_sl ([.ref (Z.2.2 0 0), .int p1, .int p2, .ref (Z.2.2 56 0)])).length) Slot.unset).toArray = ls at hl ⊢
  have hl : lv_has ls 5 [(0, .ref (Z.2.2 0 0)), (1, .int p1), (2, .int p2), (3, .ref (Z.2.2 56 0))] := hl
  have hk := hf
  unfold f_L_answer at hk
  refine lv_aload_n hx hb dL_answer_0 rfl (lv_at hl 3 rfl) ?_
  refine lv_iconst (v := (0 : Int32)) hx hb dL_answer_1 (by decide) ?_
  refine lv_aload_n hx hb dL_answer_2 rfl (lv_at hl 0 rfl) ?_
  refine lv_iload_n hx hb dL_answer_3 rfl (lv_at hl 1 rfl) ?_
  refine lv_iload_n hx hb dL_answer_4 rfl (lv_at hl 2 rfl) ?_
  obtain ⟨X2, o4, hf3, hn6, he7⟩ := e1_s hk
  refine wc_iV (rest := [.int (0 : Int32), .ref (Z.2.2 56 0)]) (As := [.int p1, .int p2]) ⟨hx, hb, hml, hown, hts⟩ (fun sz => k_X6_answer l hfl Z hZ X M O p1 p2 X2 o4 hf3 sz) (cw_RL_131 (args := args) (s := s) hts (Nat.le_of_ble_eq_true rfl) (Nat.le_of_ble_eq_true rfl)) hE hP hK hS (rv_0 hK hP (by decide)) rfl hl.1 rfl (Nat.le_of_ble_eq_true rfl) dL_answer_5 ⟨Nat.le_of_ble_eq_true rfl, Nat.le_of_ble_eq_true rfl⟩ (fun E5 ce9 q9 H locs hoE hP hS hc9 hv9 hcl9 => ?_) (fun v1 H locs ho hP hS => ?_)
  · have hk := he7 _ hoE
    by_cases cz8 : E5 = "java/lang/IndexOutOfBoundsException"
    · have hk := it_t cz8 hk
      subst cz8
      refine vx_catch hown [] ⟨0, 10, 13, 28⟩ [⟨0, 10, 17, 41⟩] (htab.trans rfl) (fun z hz => nomatch hz) (by decide) (by decide) (hts _ q753) (EV.cast hE (by decide +kernel)) hc9 hv9 hcl9 ?_
      refine lv_astore (lv' := [(4, .ref q9), (0, .ref (Z.2.2 0 0)), (1, .int p1), (2, .int p2), (3, .ref (Z.2.2 56 0))]) hx hb dL_answer_13 hl (by decide) rfl (fun ls hl => ?_)
      refine lv_iconst (v := (1 : Int32)) hx hb dL_answer_15 (by decide) ?_
      cases (show some _ = some _ from hk)
      exact we_i hx hb hr hlocks hP rfl hS dL_answer_16 (by decide) (by decide)
    have hk := it_f cz8 hk
    by_cases cz9 : E5 = "java/lang/UnsupportedOperationException"
    · have hk := it_t cz9 hk
      subst cz9
      refine vx_catch hown [⟨0, 10, 13, 28⟩] ⟨0, 10, 17, 41⟩ [] (htab.trans rfl) (by intro z hz; simp only [List.mem_cons, List.not_mem_nil, or_false] at hz; rcases hz with rfl <;> first | exact Or.inr ⟨by decide, "java/lang/IndexOutOfBoundsException", hts _ q753, EV.nc hE (by decide +kernel)⟩) (by decide) (by decide) (hts _ q829) (EV.cast hE (by decide +kernel)) hc9 hv9 hcl9 ?_
      refine lv_astore (lv' := [(4, .ref q9), (0, .ref (Z.2.2 0 0)), (1, .int p1), (2, .int p2), (3, .ref (Z.2.2 56 0))]) hx hb dL_answer_17 hl (by decide) rfl (fun ls hl => ?_)
      refine lv_iconst (v := (2 : Int32)) hx hb dL_answer_19 (by decide) ?_
      cases (show some _ = some _ from hk)
      exact we_i hx hb hr hlocks hP rfl hS dL_answer_20 (by decide) (by decide)
    have hk := it_f cz9 hk
    exact nomatch (show none = some _ from hk)
  have hk := hn6 _ ho
  refine lv_i2l (v := (v1).toInt64) hx hb dL_answer_8 rfl ?_
  obtain ⟨O10, eO10, hk⟩ := lq_s hk
  refine wa_lastore_56 hx hb hZ hK hP hS (by decide) (by unfold vp_in; decide) dL_answer_9 (fun H locs hP hS => ?_)
  rw [← eO10] at hP
  refine lv_goto (tgt := 21) hx hb dL_answer_10 (by decide) ?_
  refine lv_iconst (v := (0 : Int32)) hx hb dL_answer_21 (by decide) ?_
  cases (show some _ = some _ from hk)
  exact we_i hx hb hr hlocks hP rfl hS dL_answer_22 (by decide) (by decide)
set_option maxHeartbeats 4000000 in
set_option maxRecDepth 100000 in
theorem k_L_open (l : Launch) (hfl : l.stackTraces = false) (Z : ZT) (hZ : wD Z) (X M O : SS) (p1 : Int32) (Oz : SS) (r : Int32) (hf : f_L_open X O p1 = some (Oz, r)) (sz : Nat) : vx_Met l yL_open ws_L_open rm_L_open (va_Pc [.ref (Z.2.2 0 0), .int p1, .ref (Z.2.2 56 0)] (cP Z (X, M, O) sz)) (cQi Z (X, M, Oz) (.inl r) sz) (cX Z (X, M, Oz) (.inl r : Int32 ⊕ String) sz) 1 6 (wA Z sz) := by
  refine vx_ofWH (cc := cL_open) (maxL := 4) (ret := (some .int)) (hh := [(0, 9, 12, 47)]) (by decide) rfl ?_
  intro p e s m args below meth c s₁ B hml hv
  obtain ⟨hargs, hsz, hE, hP, hK⟩ := hv
  have hx := B.exec
  have hb := B.bytes
  have hr := B.returns
  have hts0 := atoms_spec (ws := ws_L_open) B.pre
  have hts : ∀ w ∈ lw_all, w.before args s = true := fun w h => hts0 w (List.mem_cons_of_mem _ h)
  have hown : s.vm.findClass RL = some m.cls := findClass_of_methodNamed B.named
  have hlocks := B.notSynchronized
  have htab := vx_table (x := yL_open) B (hts0 (.codeWith yL_open cL_open 4 (some .int) [(0, 9, 12, 47)]) List.mem_cons_self)
  subst hsz
  have hS : va_S (wA Z s.heap.size) s.heap s.heap [] := va_S.rf
  have hl := lv_entry ([.ref (Z.2.2 0 0), .int p1, .ref (Z.2.2 56 0)]) (n := 4) (Nat.le_of_ble_eq_true rfl)
  have hen : entryFrame m args 4 = entryFrame m ([.ref (Z.2.2 0 0), .int p1, .ref (Z.2.2 56 0)] : List Value).toArray 4 := by rw [hargs]
  rw [hen, lg_entry_eq]
  generalize (lg_sl ([.ref (Z.2.2 0 0), .int p1, .ref (Z.2.2 56 0)]) ++ List.replicate (4 - (lg_sl ([.ref (Z.2.2 0 0), .int p1, .ref (Z.2.2 56 0)])).length) Slot.unset).toArray = ls at hl ⊢
  have hl : lv_has ls 4 [(0, .ref (Z.2.2 0 0)), (1, .int p1), (2, .ref (Z.2.2 56 0))] := hl
  have hk := hf
  unfold f_L_open at hk
  refine lv_aload_n hx hb dL_open_0 rfl (lv_at hl 2 rfl) ?_
  refine lv_iconst (v := (0 : Int32)) hx hb dL_open_1 (by decide) ?_
  refine lv_aload_n hx hb dL_open_2 rfl (lv_at hl 0 rfl) ?_
  refine lv_iload_n hx hb dL_open_3 rfl (lv_at hl 1 rfl) ?_
  obtain ⟨o3, hf2, hn5, he6⟩ := e0_s hk
  refine wc_iV (rest := [.int (0 : Int32), .ref (Z.2.2 56 0)]) (As := [.int p1]) ⟨hx, hb, hml, hown, hts⟩ (fun sz => k_X6_open l hfl Z hZ X M O p1 o3 hf2 sz) (cw_RL_134 (args := args) (s := s) hts (Nat.le_of_ble_eq_true rfl) (Nat.le_of_ble_eq_true rfl)) hE hP hK hS (rv_0 hK hP (by decide)) rfl hl.1 rfl (Nat.le_of_ble_eq_true rfl) dL_open_4 ⟨Nat.le_of_ble_eq_true rfl, Nat.le_of_ble_eq_true rfl⟩ (fun E4 ce9 q9 H locs hoE hP hS hc9 hv9 hcl9 => ?_) (fun v1 H locs ho hP hS => ?_)
  · have hk := he6 _ hoE
    by_cases cz7 : E4 = "java/util/NoSuchElementException"
    · have hk := it_t cz7 hk
      subst cz7
      refine vx_catch hown [] ⟨0, 9, 12, 47⟩ [] (htab.trans rfl) (fun z hz => nomatch hz) (by decide) (by decide) (hts _ q857) (EV.cast hE (by decide +kernel)) hc9 hv9 hcl9 ?_
      refine lv_astore_n (lv' := [(3, .ref q9), (0, .ref (Z.2.2 0 0)), (1, .int p1), (2, .ref (Z.2.2 56 0))]) hx hb dL_open_12 rfl hl (by decide) rfl (fun ls hl => ?_)
      refine lv_iconst (v := (1 : Int32)) hx hb dL_open_13 (by decide) ?_
      cases (show some _ = some _ from hk)
      exact we_i hx hb hr hlocks hP rfl hS dL_open_14 (by decide) (by decide)
    have hk := it_f cz7 hk
    exact nomatch (show none = some _ from hk)
  have hk := hn5 _ ho
  refine lv_i2l (v := (v1).toInt64) hx hb dL_open_7 rfl ?_
  obtain ⟨O8, eO8, hk⟩ := lq_s hk
  refine wa_lastore_56 hx hb hZ hK hP hS (by decide) (by unfold vp_in; decide) dL_open_8 (fun H locs hP hS => ?_)
  rw [← eO8] at hP
  refine lv_goto (tgt := 15) hx hb dL_open_9 (by decide) ?_
  refine lv_iconst (v := (0 : Int32)) hx hb dL_open_15 (by decide) ?_
  cases (show some _ = some _ from hk)
  exact we_i hx hb hr hlocks hP rfl hS dL_open_16 (by decide) (by decide)
set_option maxHeartbeats 4000000 in
set_option maxRecDepth 100000 in
theorem k_L_left (l : Launch) (hfl : l.stackTraces = false) (Z : ZT) (hZ : wD Z) (X M O : SS) (p1 : Int32) (Oz : SS) (r : Int32) (hf : f_L_left X O p1 = some (Oz, r)) (sz : Nat) : vx_Met l yL_left ws_L_left rm_L_left (va_Pc [.ref (Z.2.2 0 0), .int p1, .ref (Z.2.2 56 0)] (cP Z (X, M, O) sz)) (cQi Z (X, M, Oz) (.inl r) sz) (cX Z (X, M, Oz) (.inl r : Int32 ⊕ String) sz) 2 12 (wA Z sz) := by
  refine vx_ofWH (cc := cL_left) (maxL := 4) (ret := (some .int)) (hh := [(0, 9, 12, 28), (0, 9, 15, 41)]) (by decide) rfl ?_
  intro p e s m args below meth c s₁ B hml hv
  obtain ⟨hargs, hsz, hE, hP, hK⟩ := hv
  have hx := B.exec
  have hb := B.bytes
  have hr := B.returns
  have hts0 := atoms_spec (ws := ws_L_left) B.pre
  have hts : ∀ w ∈ lw_all, w.before args s = true := fun w h => hts0 w (List.mem_cons_of_mem _ h)
  have hown : s.vm.findClass RL = some m.cls := findClass_of_methodNamed B.named
  have hlocks := B.notSynchronized
  have htab := vx_table (x := yL_left) B (hts0 (.codeWith yL_left cL_left 4 (some .int) [(0, 9, 12, 28), (0, 9, 15, 41)]) List.mem_cons_self)
  subst hsz
  have hS : va_S (wA Z s.heap.size) s.heap s.heap [] := va_S.rf
  have hl := lv_entry ([.ref (Z.2.2 0 0), .int p1, .ref (Z.2.2 56 0)]) (n := 4) (Nat.le_of_ble_eq_true rfl)
  have hen : entryFrame m args 4 = entryFrame m ([.ref (Z.2.2 0 0), .int p1, .ref (Z.2.2 56 0)] : List Value).toArray 4 := by rw [hargs]
  rw [hen, lg_entry_eq]
  generalize (lg_sl ([.ref (Z.2.2 0 0), .int p1, .ref (Z.2.2 56 0)]) ++ List.replicate (4 - (lg_sl ([.ref (Z.2.2 0 0), .int p1, .ref (Z.2.2 56 0)])).length) Slot.unset).toArray = ls at hl ⊢
  have hl : lv_has ls 4 [(0, .ref (Z.2.2 0 0)), (1, .int p1), (2, .ref (Z.2.2 56 0))] := hl
  have hk := hf
  unfold f_L_left at hk
  refine lv_aload_n hx hb dL_left_0 rfl (lv_at hl 2 rfl) ?_
  refine lv_iconst (v := (0 : Int32)) hx hb dL_left_1 (by decide) ?_
  refine lv_aload_n hx hb dL_left_2 rfl (lv_at hl 0 rfl) ?_
  refine lv_iload_n hx hb dL_left_3 rfl (lv_at hl 1 rfl) ?_
  obtain ⟨o3, hf2, hn5, he6⟩ := e0_s hk
  refine wc_iV (rest := [.int (0 : Int32), .ref (Z.2.2 56 0)]) (As := [.int p1]) ⟨hx, hb, hml, hown, hts⟩ (fun sz => k_X6_left l hfl Z hZ X M O p1 o3 hf2 sz) (cw_RL_137 (args := args) (s := s) hts (Nat.le_of_ble_eq_true rfl) (Nat.le_of_ble_eq_true rfl)) hE hP hK hS (rv_0 hK hP (by decide)) rfl hl.1 rfl (Nat.le_of_ble_eq_true rfl) dL_left_4 ⟨Nat.le_of_ble_eq_true rfl, Nat.le_of_ble_eq_true rfl⟩ (fun E4 ce9 q9 H locs hoE hP hS hc9 hv9 hcl9 => ?_) (fun v1 H locs ho hP hS => ?_)
  · have hk := he6 _ hoE
    by_cases cz7 : E4 = "java/lang/IndexOutOfBoundsException"
    · have hk := it_t cz7 hk
      subst cz7
      refine vx_catch hown [] ⟨0, 9, 12, 28⟩ [⟨0, 9, 15, 41⟩] (htab.trans rfl) (fun z hz => nomatch hz) (by decide) (by decide) (hts _ q753) (EV.cast hE (by decide +kernel)) hc9 hv9 hcl9 ?_
      refine lv_astore_n (lv' := [(3, .ref q9), (0, .ref (Z.2.2 0 0)), (1, .int p1), (2, .ref (Z.2.2 56 0))]) hx hb dL_left_12 rfl hl (by decide) rfl (fun ls hl => ?_)
      refine lv_iconst (v := (1 : Int32)) hx hb dL_left_13 (by decide) ?_
      cases (show some _ = some _ from hk)
      exact we_i hx hb hr hlocks hP rfl hS dL_left_14 (by decide) (by decide)
    have hk := it_f cz7 hk
    by_cases cz8 : E4 = "java/lang/UnsupportedOperationException"
    · have hk := it_t cz8 hk
      subst cz8
      refine vx_catch hown [⟨0, 9, 12, 28⟩] ⟨0, 9, 15, 41⟩ [] (htab.trans rfl) (by intro z hz; simp only [List.mem_cons, List.not_mem_nil, or_false] at hz; rcases hz with rfl <;> first | exact Or.inr ⟨by decide, "java/lang/IndexOutOfBoundsException", hts _ q753, EV.nc hE (by decide +kernel)⟩) (by decide) (by decide) (hts _ q829) (EV.cast hE (by decide +kernel)) hc9 hv9 hcl9 ?_
      refine lv_astore_n (lv' := [(3, .ref q9), (0, .ref (Z.2.2 0 0)), (1, .int p1), (2, .ref (Z.2.2 56 0))]) hx hb dL_left_15 rfl hl (by decide) rfl (fun ls hl => ?_)
      refine lv_iconst (v := (2 : Int32)) hx hb dL_left_16 (by decide) ?_
      cases (show some _ = some _ from hk)
      exact we_i hx hb hr hlocks hP rfl hS dL_left_17 (by decide) (by decide)
    have hk := it_f cz8 hk
    exact nomatch (show none = some _ from hk)
  have hk := hn5 _ ho
  refine lv_i2l (v := (v1).toInt64) hx hb dL_left_7 rfl ?_
  obtain ⟨O9, eO9, hk⟩ := lq_s hk
  refine wa_lastore_56 hx hb hZ hK hP hS (by decide) (by unfold vp_in; decide) dL_left_8 (fun H locs hP hS => ?_)
  rw [← eO9] at hP
  refine lv_goto (tgt := 18) hx hb dL_left_9 (by decide) ?_
  refine lv_iconst (v := (0 : Int32)) hx hb dL_left_18 (by decide) ?_
  cases (show some _ = some _ from hk)
  exact we_i hx hb hr hlocks hP rfl hS dL_left_19 (by decide) (by decide)
set_option maxHeartbeats 4000000 in
set_option maxRecDepth 100000 in
theorem k_L_days (l : Launch) (hfl : l.stackTraces = false) (Z : ZT) (hZ : wD Z) (X M O : SS) (p1 : Int32) (Xz : SS) (Oz : SS) (r : Int32) (hf : f_L_days X O p1 = some (Xz, Oz, r)) (sz : Nat) : vx_Met l yL_days ws_L_days rm_L_days (va_Pc [.ref (Z.2.2 0 0), .int p1, .ref (Z.2.2 56 0)] (cP Z (X, M, O) sz)) (cQi Z (Xz, M, Oz) (.inl r) sz) (cX Z (Xz, M, Oz) (.inl r : Int32 ⊕ String) sz) 1 6 (wA Z sz) := by
  refine vx_ofWH (cc := cL_days) (maxL := 4) (ret := (some .int)) (hh := [(0, 9, 12, 13)]) (by decide) rfl ?_
  intro p e s m args below meth c s₁ B hml hv
  obtain ⟨hargs, hsz, hE, hP, hK⟩ := hv
  have hx := B.exec
  have hb := B.bytes
  have hr := B.returns
  have hts0 := atoms_spec (ws := ws_L_days) B.pre
  have hts : ∀ w ∈ lw_all, w.before args s = true := fun w h => hts0 w (List.mem_cons_of_mem _ h)
  have hown : s.vm.findClass RL = some m.cls := findClass_of_methodNamed B.named
  have hlocks := B.notSynchronized
  have htab := vx_table (x := yL_days) B (hts0 (.codeWith yL_days cL_days 4 (some .int) [(0, 9, 12, 13)]) List.mem_cons_self)
  subst hsz
  have hS : va_S (wA Z s.heap.size) s.heap s.heap [] := va_S.rf
  have hl := lv_entry ([.ref (Z.2.2 0 0), .int p1, .ref (Z.2.2 56 0)]) (n := 4) (Nat.le_of_ble_eq_true rfl)
  have hen : entryFrame m args 4 = entryFrame m ([.ref (Z.2.2 0 0), .int p1, .ref (Z.2.2 56 0)] : List Value).toArray 4 := by rw [hargs]
  rw [hen, lg_entry_eq]
  generalize (lg_sl ([.ref (Z.2.2 0 0), .int p1, .ref (Z.2.2 56 0)]) ++ List.replicate (4 - (lg_sl ([.ref (Z.2.2 0 0), .int p1, .ref (Z.2.2 56 0)])).length) Slot.unset).toArray = ls at hl ⊢
  have hl : lv_has ls 4 [(0, .ref (Z.2.2 0 0)), (1, .int p1), (2, .ref (Z.2.2 56 0))] := hl
  have hk := hf
  unfold f_L_days at hk
  refine lv_aload_n hx hb dL_days_0 rfl (lv_at hl 2 rfl) ?_
  refine lv_iconst (v := (0 : Int32)) hx hb dL_days_1 (by decide) ?_
  refine lv_aload_n hx hb dL_days_2 rfl (lv_at hl 0 rfl) ?_
  refine lv_iload_n hx hb dL_days_3 rfl (lv_at hl 1 rfl) ?_
  obtain ⟨X2, o4, hf3, hn6, he7⟩ := e1_s hk
  refine wc_iV (rest := [.int (0 : Int32), .ref (Z.2.2 56 0)]) (As := [.int p1]) ⟨hx, hb, hml, hown, hts⟩ (fun sz => k_X6_days l hfl Z hZ X M O p1 X2 o4 hf3 sz) (cw_RL_140 (args := args) (s := s) hts (Nat.le_of_ble_eq_true rfl) (Nat.le_of_ble_eq_true rfl)) hE hP hK hS (rv_0 hK hP (by decide)) rfl hl.1 rfl (Nat.le_of_ble_eq_true rfl) dL_days_4 ⟨Nat.le_of_ble_eq_true rfl, Nat.le_of_ble_eq_true rfl⟩ (fun E5 ce9 q9 H locs hoE hP hS hc9 hv9 hcl9 => ?_) (fun v1 H locs ho hP hS => ?_)
  · have hk := he7 _ hoE
    by_cases cz8 : E5 = "java/lang/IllegalArgumentException"
    · have hk := it_t cz8 hk
      subst cz8
      refine vx_catch hown [] ⟨0, 9, 12, 13⟩ [] (htab.trans rfl) (fun z hz => nomatch hz) (by decide) (by decide) (hts _ q536) (EV.cast hE (by decide +kernel)) hc9 hv9 hcl9 ?_
      refine lv_astore_n (lv' := [(3, .ref q9), (0, .ref (Z.2.2 0 0)), (1, .int p1), (2, .ref (Z.2.2 56 0))]) hx hb dL_days_12 rfl hl (by decide) rfl (fun ls hl => ?_)
      refine lv_iconst (v := (1 : Int32)) hx hb dL_days_13 (by decide) ?_
      cases (show some _ = some _ from hk)
      exact we_i hx hb hr hlocks hP rfl hS dL_days_14 (by decide) (by decide)
    have hk := it_f cz8 hk
    exact nomatch (show none = some _ from hk)
  have hk := hn6 _ ho
  refine lv_i2l (v := (v1).toInt64) hx hb dL_days_7 rfl ?_
  obtain ⟨O9, eO9, hk⟩ := lq_s hk
  refine wa_lastore_56 hx hb hZ hK hP hS (by decide) (by unfold vp_in; decide) dL_days_8 (fun H locs hP hS => ?_)
  rw [← eO9] at hP
  refine lv_goto (tgt := 15) hx hb dL_days_9 (by decide) ?_
  refine lv_iconst (v := (0 : Int32)) hx hb dL_days_15 (by decide) ?_
  cases (show some _ = some _ from hk)
  exact we_i hx hb hr hlocks hP rfl hS dL_days_16 (by decide) (by decide)
set_option maxHeartbeats 4000000 in
set_option maxRecDepth 100000 in
theorem k_L_standingShare (l : Launch) (hfl : l.stackTraces = false) (Z : ZT) (hZ : wD Z) (X M O : SS) (Oz : SS) (r : Int32) (hf : f_L_standingShare X O = some (Oz, r)) (sz : Nat) : vx_Met l yL_standingShare ws_L_standingShare rm_L_standingShare (va_Pc [.ref (Z.2.2 0 0), .ref (Z.2.2 57 0)] (cP Z (X, M, O) sz)) (cQi Z (X, M, Oz) (.inl r) sz) (cX Z (X, M, Oz) (.inl r : Int32 ⊕ String) sz) 1 6 (wA Z sz) := by
  refine vx_ofWH (cc := cL_standingShare) (maxL := 3) (ret := (some .int)) (hh := [(0, 8, 11, 147)]) (by decide) rfl ?_
  intro p e s m args below meth c s₁ B hml hv
  obtain ⟨hargs, hsz, hE, hP, hK⟩ := hv
  have hx := B.exec
  have hb := B.bytes
  have hr := B.returns
  have hts0 := atoms_spec (ws := ws_L_standingShare) B.pre
  have hts : ∀ w ∈ lw_all, w.before args s = true := fun w h => hts0 w (List.mem_cons_of_mem _ h)
  have hown : s.vm.findClass RL = some m.cls := findClass_of_methodNamed B.named
  have hlocks := B.notSynchronized
  have htab := vx_table (x := yL_standingShare) B (hts0 (.codeWith yL_standingShare cL_standingShare 3 (some .int) [(0, 8, 11, 147)]) List.mem_cons_self)
  subst hsz
  have hS : va_S (wA Z s.heap.size) s.heap s.heap [] := va_S.rf
  have hl := lv_entry ([.ref (Z.2.2 0 0), .ref (Z.2.2 57 0)]) (n := 3) (Nat.le_of_ble_eq_true rfl)
  have hen : entryFrame m args 3 = entryFrame m ([.ref (Z.2.2 0 0), .ref (Z.2.2 57 0)] : List Value).toArray 3 := by rw [hargs]
  rw [hen, lg_entry_eq]
  generalize (lg_sl ([.ref (Z.2.2 0 0), .ref (Z.2.2 57 0)]) ++ List.replicate (3 - (lg_sl ([.ref (Z.2.2 0 0), .ref (Z.2.2 57 0)])).length) Slot.unset).toArray = ls at hl ⊢
  have hl : lv_has ls 3 [(0, .ref (Z.2.2 0 0)), (1, .ref (Z.2.2 57 0))] := hl
  have hk := hf
  unfold f_L_standingShare at hk
  refine lv_aload_n hx hb dL_standingShare_0 rfl (lv_at hl 1 rfl) ?_
  refine lv_iconst (v := (0 : Int32)) hx hb dL_standingShare_1 (by decide) ?_
  refine lv_aload_n hx hb dL_standingShare_2 rfl (lv_at hl 0 rfl) ?_
  obtain ⟨o3, hf2, hn5, he6⟩ := e0_s hk
  refine wc_fV (rest := [.int (0 : Int32), .ref (Z.2.2 57 0)]) (As := []) ⟨hx, hb, hml, hown, hts⟩ (fun sz => k_X6_standingShare l hfl Z hZ X M O o3 hf2 sz) (cw_RL_143 (args := args) (s := s) hts (Nat.le_of_ble_eq_true rfl) (Nat.le_of_ble_eq_true rfl)) hE hP hK hS (rv_0 hK hP (by decide)) rfl hl.1 rfl (Nat.le_of_ble_eq_true rfl) dL_standingShare_3 ⟨Nat.le_of_ble_eq_true rfl, Nat.le_of_ble_eq_true rfl⟩ (fun E4 ce9 q9 H locs hoE hP hS hc9 hv9 hcl9 => ?_) (fun v1 H locs ho hP hS => ?_)
  · have hk := he6 _ hoE
    by_cases cz7 : E4 = "java/lang/ArithmeticException"
    · have hk := it_t cz7 hk
      subst cz7
      refine vx_catch hown [] ⟨0, 8, 11, 147⟩ [] (htab.trans rfl) (fun z hz => nomatch hz) (by decide) (by decide) (hts _ q1201) (EV.cast hE (by decide +kernel)) hc9 hv9 hcl9 ?_
      refine lv_astore_n (lv' := [(2, .ref q9), (0, .ref (Z.2.2 0 0)), (1, .ref (Z.2.2 57 0))]) hx hb dL_standingShare_11 rfl hl (by decide) rfl (fun ls hl => ?_)
      refine lv_iconst (v := (1 : Int32)) hx hb dL_standingShare_12 (by decide) ?_
      cases (show some _ = some _ from hk)
      exact we_i hx hb hr hlocks hP rfl hS dL_standingShare_13 (by decide) (by decide)
    have hk := it_f cz7 hk
    exact nomatch (show none = some _ from hk)
  have hk := hn5 _ ho
  obtain ⟨hg8, hk⟩ := gd_s hk
  refine lv_f2d hx hb dL_standingShare_6 hg8 ?_
  obtain ⟨O9, eO9, hk⟩ := lq_s hk
  refine wa_dastore_57 hx hb hZ hK hP hS (by decide) (by unfold vp_in; decide) dL_standingShare_7 (fun H locs hP hS => ?_)
  rw [← eO9] at hP
  refine lv_goto (tgt := 14) hx hb dL_standingShare_8 (by decide) ?_
  refine lv_iconst (v := (0 : Int32)) hx hb dL_standingShare_14 (by decide) ?_
  cases (show some _ = some _ from hk)
  exact we_i hx hb hr hlocks hP rfl hS dL_standingShare_15 (by decide) (by decide)
set_option maxHeartbeats 4000000 in
set_option maxRecDepth 100000 in
theorem k_L_meanSteps (l : Launch) (hfl : l.stackTraces = false) (Z : ZT) (hZ : wD Z) (X M O : SS) (p1 : Int32) (Xz : SS) (Oz : SS) (r : Int32) (hf : f_L_meanSteps X O p1 = some (Xz, Oz, r)) (sz : Nat) : vx_Met l yL_meanSteps ws_L_meanSteps rm_L_meanSteps (va_Pc [.ref (Z.2.2 0 0), .int p1, .ref (Z.2.2 57 0)] (cP Z (X, M, O) sz)) (cQi Z (Xz, M, Oz) (.inl r) sz) (cX Z (Xz, M, Oz) (.inl r : Int32 ⊕ String) sz) 2 12 (wA Z sz) := by
  refine vx_ofWH (cc := cL_meanSteps) (maxL := 4) (ret := (some .int)) (hh := [(0, 8, 11, 28), (0, 8, 14, 147)]) (by decide) rfl ?_
  intro p e s m args below meth c s₁ B hml hv
  obtain ⟨hargs, hsz, hE, hP, hK⟩ := hv
  have hx := B.exec
  have hb := B.bytes
  have hr := B.returns
  have hts0 := atoms_spec (ws := ws_L_meanSteps) B.pre
  have hts : ∀ w ∈ lw_all, w.before args s = true := fun w h => hts0 w (List.mem_cons_of_mem _ h)
  have hown : s.vm.findClass RL = some m.cls := findClass_of_methodNamed B.named
  have hlocks := B.notSynchronized
  have htab := vx_table (x := yL_meanSteps) B (hts0 (.codeWith yL_meanSteps cL_meanSteps 4 (some .int) [(0, 8, 11, 28), (0, 8, 14, 147)]) List.mem_cons_self)
  subst hsz
  have hS : va_S (wA Z s.heap.size) s.heap s.heap [] := va_S.rf
  have hl := lv_entry ([.ref (Z.2.2 0 0), .int p1, .ref (Z.2.2 57 0)]) (n := 4) (Nat.le_of_ble_eq_true rfl)
  have hen : entryFrame m args 4 = entryFrame m ([.ref (Z.2.2 0 0), .int p1, .ref (Z.2.2 57 0)] : List Value).toArray 4 := by rw [hargs]
  rw [hen, lg_entry_eq]
  generalize (lg_sl ([.ref (Z.2.2 0 0), .int p1, .ref (Z.2.2 57 0)]) ++ List.replicate (4 - (lg_sl ([.ref (Z.2.2 0 0), .int p1, .ref (Z.2.2 57 0)])).length) Slot.unset).toArray = ls at hl ⊢
  have hl : lv_has ls 4 [(0, .ref (Z.2.2 0 0)), (1, .int p1), (2, .ref (Z.2.2 57 0))] := hl
  have hk := hf
  unfold f_L_meanSteps at hk
  refine lv_aload_n hx hb dL_meanSteps_0 rfl (lv_at hl 2 rfl) ?_
  refine lv_iconst (v := (0 : Int32)) hx hb dL_meanSteps_1 (by decide) ?_
  refine lv_aload_n hx hb dL_meanSteps_2 rfl (lv_at hl 0 rfl) ?_
  refine lv_iload_n hx hb dL_meanSteps_3 rfl (lv_at hl 1 rfl) ?_
  obtain ⟨X2, o4, hf3, hn6, he7⟩ := e1_s hk
  refine wc_dV (rest := [.int (0 : Int32), .ref (Z.2.2 57 0)]) (As := [.int p1]) ⟨hx, hb, hml, hown, hts⟩ (fun sz => k_X6_meanSteps l hfl Z hZ X M O p1 X2 o4 hf3 sz) (cw_RL_149 (args := args) (s := s) hts (Nat.le_of_ble_eq_true rfl) (Nat.le_of_ble_eq_true rfl)) hE hP hK hS (rv_0 hK hP (by decide)) rfl hl.1 rfl (Nat.le_of_ble_eq_true rfl) dL_meanSteps_4 ⟨Nat.le_of_ble_eq_true rfl, Nat.le_of_ble_eq_true rfl⟩ (fun E5 ce9 q9 H locs hoE hP hS hc9 hv9 hcl9 => ?_) (fun v1 H locs ho hP hS => ?_)
  · have hk := he7 _ hoE
    by_cases cz8 : E5 = "java/lang/IndexOutOfBoundsException"
    · have hk := it_t cz8 hk
      subst cz8
      refine vx_catch hown [] ⟨0, 8, 11, 28⟩ [⟨0, 8, 14, 147⟩] (htab.trans rfl) (fun z hz => nomatch hz) (by decide) (by decide) (hts _ q753) (EV.cast hE (by decide +kernel)) hc9 hv9 hcl9 ?_
      refine lv_astore_n (lv' := [(3, .ref q9), (0, .ref (Z.2.2 0 0)), (1, .int p1), (2, .ref (Z.2.2 57 0))]) hx hb dL_meanSteps_11 rfl hl (by decide) rfl (fun ls hl => ?_)
      refine lv_iconst (v := (1 : Int32)) hx hb dL_meanSteps_12 (by decide) ?_
      cases (show some _ = some _ from hk)
      exact we_i hx hb hr hlocks hP rfl hS dL_meanSteps_13 (by decide) (by decide)
    have hk := it_f cz8 hk
    by_cases cz9 : E5 = "java/lang/ArithmeticException"
    · have hk := it_t cz9 hk
      subst cz9
      refine vx_catch hown [⟨0, 8, 11, 28⟩] ⟨0, 8, 14, 147⟩ [] (htab.trans rfl) (by intro z hz; simp only [List.mem_cons, List.not_mem_nil, or_false] at hz; rcases hz with rfl <;> first | exact Or.inr ⟨by decide, "java/lang/IndexOutOfBoundsException", hts _ q753, EV.nc hE (by decide +kernel)⟩) (by decide) (by decide) (hts _ q1201) (EV.cast hE (by decide +kernel)) hc9 hv9 hcl9 ?_
      refine lv_astore_n (lv' := [(3, .ref q9), (0, .ref (Z.2.2 0 0)), (1, .int p1), (2, .ref (Z.2.2 57 0))]) hx hb dL_meanSteps_14 rfl hl (by decide) rfl (fun ls hl => ?_)
      refine lv_iconst (v := (2 : Int32)) hx hb dL_meanSteps_15 (by decide) ?_
      cases (show some _ = some _ from hk)
      exact we_i hx hb hr hlocks hP rfl hS dL_meanSteps_16 (by decide) (by decide)
    have hk := it_f cz9 hk
    exact nomatch (show none = some _ from hk)
  have hk := hn6 _ ho
  obtain ⟨O10, eO10, hk⟩ := lq_s hk
  refine wa_dastore_57 hx hb hZ hK hP hS (by decide) (by unfold vp_in; decide) dL_meanSteps_7 (fun H locs hP hS => ?_)
  rw [← eO10] at hP
  refine lv_goto (tgt := 17) hx hb dL_meanSteps_8 (by decide) ?_
  refine lv_iconst (v := (0 : Int32)) hx hb dL_meanSteps_17 (by decide) ?_
  cases (show some _ = some _ from hk)
  exact we_i hx hb hr hlocks hP rfl hS dL_meanSteps_18 (by decide) (by decide)