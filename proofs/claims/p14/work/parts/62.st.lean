abbrev sL : Term := .string "Katacode" 84
theorem sL_ex : Cond.exactly sL "java/lang/String" ∈ flatC (Jvm.Cond.and given_1 narrow_1) := by decide +kernel
theorem sL_co : Cond.eq (.field sL "java/lang/String" "coder" "B") (.int 0) ∈ flatC (Jvm.Cond.and given_1 narrow_1) := by decide +kernel
theorem sL_ar : Cond.arrayOf (.field sL "java/lang/String" "value" "[B") .byte ∈ flatC (Jvm.Cond.and given_1 narrow_1) := by decide +kernel
theorem sL_le : Cond.eq (.length (.field sL "java/lang/String" "value" "[B")) (.int (Int32.ofNat ([12].getD 0 0))) ∈ flatC (Jvm.Cond.and given_1 narrow_1) := by decide +kernel
theorem sL_el : ∀ j, j < 12 → Cond.eq (.elem (.field sL "java/lang/String" "value" "[B") (.int (Int32.ofNat j))) (.int (lt_by.getD j 0)) ∈ flatC (Jvm.Cond.and given_1 narrow_1) := by decide +kernel
theorem sL_in : Cond.stringRef "Katacode" 84 "ni+-*%dspo[]" ∈ lw_tbl := by decide +kernel
theorem sZ_in : Cond.laysStatic "java/lang/String" "COMPACT_STRINGS" "Z" ∈ lw_tbl := by decide +kernel
theorem sI_in : Cond.initialized "java/lang/String" ∈ lw_tbl := by decide +kernel
theorem sZ_at : Cond.eq (.static "java/lang/String" "COMPACT_STRINGS" "Z") (.int 1) ∈ flatC (Jvm.Cond.and given_1 narrow_1) := by decide +kernel
theorem law_le {s : State} {b : Addr} (hts : ∀ w ∈ lw_tbl, w.before #[Value.ref b] s = true) (hgv : (Jvm.Cond.and given_1 narrow_1).before #[Value.ref b] s = true) : ∃ gS gB : Nat, LE gS gB (fun q : Nat => s.heap.size ≤ q) s := by
  have hs := flat_of_before _ hgv
  have hA : ∀ a : Nat, a < s.heap.size → ¬ (fun q : Nat => s.heap.size ≤ q) a := fun a h => Nat.not_le.mpr h
  obtain ⟨adK, adV, hS, he⟩ := vk_Sof (args := #[Value.ref b]) (s := s) (N := 1) (tm := fun _ => sL) (len := [12]) (byt := [lt_by]) (A := fun q : Nat => s.heap.size ≤ q) (fun i hi => by obtain rfl : i = 0 := (by omega); decide) (fun i hi => hs _ sL_ex) (fun i hi => hs _ sL_co) (fun i hi => hs _ sL_ar) (fun i hi => by obtain rfl : i = 0 := (by omega); exact hs _ sL_le) (fun i hi j hj => by obtain rfl : i = 0 := (by omega); exact hs _ (sL_el j hj)) (fun i j hi hj hne => absurd (by omega) hne) hA
  obtain ⟨h1, h2, h3, h4⟩ := hS.1 0 (by decide)
  exact ⟨adK 0, adV 0, vk_R.of (hts _ sL_in) (he 0 (by decide)), h1, h2, h3, h4, va_Zof (hts _ sZ_in) (hts _ sI_in) (va_eqi (hs _ sZ_at)) hA⟩
theorem ev_dec_in : ∀ y ∈ ev_dec, Cond.declares y ∈ lw_tbl := by decide +kernel
theorem ev_cast_in : ∀ q ∈ ev_cast, Cond.castable q.1 q.2 ∈ lw_tbl := by decide +kernel
theorem ev_str_in : ∀ q ∈ ev_str, Cond.stringRef q.1 q.2.1 q.2.2 ∈ lw_tbl := by decide +kernel
theorem ev_str_at : ∀ q ∈ ev_str, Cond.exactly (.string q.1 q.2.1) "java/lang/String" ∈ flatC (Jvm.Cond.and given_1 narrow_1) := by decide +kernel
theorem ev_ao_in : ∀ C ∈ ev_ao, Cond.arrayOver (.object C) ∈ lw_tbl := by decide +kernel
theorem ev_zu_in : Cond.laysStatic Bundle.tN "UNASSIGNED_STACK" Bundle.steD ∈ lw_tbl := by decide +kernel
theorem ev_zn_in : Cond.laysStatic Bundle.tN "SUPPRESSED_SENTINEL" Bundle.listD ∈ lw_tbl := by decide +kernel
theorem ev_zi_in : Cond.initialized Bundle.tN ∈ lw_tbl := by decide +kernel
theorem ev_zu_at : Cond.isRef (.static Bundle.tN "UNASSIGNED_STACK" Bundle.steD) ∈ flatC (Jvm.Cond.and given_1 narrow_1) := by decide +kernel
theorem ev_zn_at : Cond.isRef (.static Bundle.tN "SUPPRESSED_SENTINEL" Bundle.listD) ∈ flatC (Jvm.Cond.and given_1 narrow_1) := by decide +kernel
theorem ev_nc_at : ∀ q ∈ ev_nc, Cond.not (.castable q.1 q.2) ∈ flatC (Jvm.Cond.and given_1 narrow_1) := by decide +kernel
theorem law_ev {s : State} {b : Addr} (hts : ∀ w ∈ lw_tbl, w.before #[Value.ref b] s = true) (hgv : (Jvm.Cond.and given_1 narrow_1).before #[Value.ref b] s = true) : EV (fun q : Nat => s.heap.size ≤ q) s := by
  have hs := flat_of_before _ hgv
  have hA : ∀ a : Nat, a < s.heap.size → ¬ (fun q : Nat => s.heap.size ≤ q) a := fun a h => Nat.not_le.mpr h
  refine ⟨fun y hy => va_Nw.of rfl (hts _ (ev_dec_in y hy)), fun q hq => va_Nw.of rfl (hts _ (ev_cast_in q hq)), fun q hq => ?_, fun C hC => va_AO.of (hts _ (ev_ao_in C hC)), vx_Zqof (hts _ ev_zu_in) (hts _ ev_zi_in) (hs _ ev_zu_at) hA, vx_Zqof (hts _ ev_zn_in) (hts _ ev_zi_in) (hs _ ev_zn_at) hA, law_le hts hgv, fun q hq => va_Nc.of (hs _ (ev_nc_at q hq))⟩
  obtain ⟨a, c, cell, k, h1, -⟩ := Cond.exactly_spec (show (Cond.exactly (.string q.1 q.2.1) "java/lang/String").holds #[Value.ref b] s none s [] = true from hs _ (ev_str_at q hq))
  exact ⟨a, vk_R.of (hts _ (ev_str_in q hq)) h1⟩

theorem arr_at {args : Array Value} {s : State} {ty : FieldType} (hp : ∀ C, ty ≠ .object C) (h : (Cond.arrayClass ty).before args s = true) : ∃ cA : ClassId, ArrOfT s cA ty ∧ va_RA s cA ty := by
  obtain ⟨cA, kA, comp, h1, h2, h3⟩ := Cond.arrayClass_spec h
  refine ⟨cA, fun n z => ⟨fun k h => (by cases h), kA, h2, comp, h3⟩, ?_⟩
  cases ty with
  | object C => exact absurd rfl (hp C)
  | _ => exact h1
theorem arr_ob {args : Array Value} {s : State} {C : String} (h : (Cond.arrayOver (.object C)).before args s = true) : ∃ cA : ClassId, ArrOfT s cA (.object C) ∧ va_RA s cA (.object C) := by
  obtain ⟨comp, c, k, h1, h2, h3, h4, h5⟩ := Cond.arrayOver_spec h
  exact ⟨c, fun n z => ⟨fun k h => (by cases h), k, h3, comp, h4⟩, k, comp, h3, h4, h1, h5⟩
set_option maxHeartbeats 8000000 in
set_option maxRecDepth 100000 in
theorem whole_start {p : Program} {e : Env} {s : State} {m : MethodId} {below : List Frame} {meth : Method} {c : Code} (l : Launch) (hflags : l.flags = flags0) {b L : Nat} {xs : Nat → Int32} (hL : L ≤ 2048) (C0 : lw_At p s m meth c b L xs) : W p l e room_1 s m #[Value.ref b] below meth c s.heap [] 0 0 (lw_Z below #[Value.ref b] s) (entryFrame m ([Value.ref b] : List Value).toArray 9) := by
  obtain ⟨hx, hb, hr, hml, hown, hts0, hX, hbl, hlocks, hgv⟩ := id C0
  have hfl : l.stackTraces = false := by rw [Launch.stackTraces, hflags]; decide
  have hE0 := law_ev hts0 hgv
  have hts : ∀ w ∈ lw_all, w.before #[Value.ref b] s = true := fun w h => hts0 w (List.mem_filter.mp h).1
  obtain ⟨cc0, ii0, hKn0⟩ := u_known (C := RJ0) (T := TJ0) (N := 2) (n := 4) hts0 (by decide +kernel) (hts0 (.instantiable RJ0 4) (by decide +kernel))
  obtain ⟨cc1, ii1, hKn1⟩ := u_known (C := RJx00060) (T := TJx00060) (N := 6) (n := 6) hts0 (by decide +kernel) (hts0 (.instantiable RJx00060 6) (by decide +kernel))
  obtain ⟨cc2, ii2, hKn2⟩ := u_known (C := RX0) (T := TX0) (N := 3) (n := 3) hts0 (fun w h => (List.mem_filter.mp (hin_RX0 w h)).1) (hts0 (.instantiable RX0 3) (by decide +kernel))
  obtain ⟨cc3, ii3, hKn3⟩ := u_known (C := RX1) (T := TX1) (N := 9) (n := 9) hts0 (fun w h => (List.mem_filter.mp (hin_RX1 w h)).1) (hts0 (.instantiable RX1 9) (by decide +kernel))
  obtain ⟨cc4, ii4, hKn4⟩ := u_known (C := RX2) (T := TX2) (N := 4) (n := 4) hts0 (fun w h => (List.mem_filter.mp (hin_RX2 w h)).1) (hts0 (.instantiable RX2 4) (by decide +kernel))
  obtain ⟨cc5, ii5, hKn5⟩ := u_known (C := RX3) (T := TX3) (N := 3) (n := 3) hts0 (fun w h => (List.mem_filter.mp (hin_RX3 w h)).1) (hts0 (.instantiable RX3 3) (by decide +kernel))
  obtain ⟨cc6, ii6, hKn6⟩ := u_known (C := RX4) (T := TX4) (N := 5) (n := 5) hts0 (fun w h => (List.mem_filter.mp (hin_RX4 w h)).1) (hts0 (.instantiable RX4 5) (by decide +kernel))
  obtain ⟨cc7, ii7, hKn7⟩ := u_known (C := RX5) (T := TX5) (N := 17) (n := 17) hts0 (fun w h => (List.mem_filter.mp (hin_RX5 w h)).1) (hts0 (.instantiable RX5 17) (by decide +kernel))
  obtain ⟨cc8, ii8, hKn8⟩ := u_known (C := RX6) (T := TX6) (N := 16) (n := 16) hts0 (fun w h => (List.mem_filter.mp (hin_RX6 w h)).1) (hts0 (.instantiable RX6 16) (by decide +kernel))
  obtain ⟨cc9, ii9, hKn9⟩ := u_known (C := RX7) (T := TX7) (N := 46) (n := 46) hts0 (fun w h => (List.mem_filter.mp (hin_RX7 w h)).1) (hts0 (.instantiable RX7 46) (by decide +kernel))
  obtain ⟨dC, dI, hKc⟩ : ∃ (dC : Nat → ClassId) (dI : Nat → Nat → Nat), ∀ (k : Nat) (q : vw_C), vwCl[k]? = some q → u_Kn s q.1 q.2.1 q.2.2 (dC k) (dI k) := by
    refine ⟨fun k => [cc0, cc1, cc2, cc3, cc4, cc5, cc6, cc7, cc8, cc9].getD k cc0, fun k => [ii0, ii1, ii2, ii3, ii4, ii5, ii6, ii7, ii8, ii9].getD k ii0, ?_⟩
    intro k q hq
    match k, hq with
    | 0, hq => cases hq; exact hKn0
    | 1, hq => cases hq; exact hKn1
    | 2, hq => cases hq; exact hKn2
    | 3, hq => cases hq; exact hKn3
    | 4, hq => cases hq; exact hKn4
    | 5, hq => cases hq; exact hKn5
    | 6, hq => cases hq; exact hKn6
    | 7, hq => cases hq; exact hKn7
    | 8, hq => cases hq; exact hKn8
    | 9, hq => cases hq; exact hKn9
    | k + 10, hq => simp [vwCl] at hq
  obtain ⟨a0, ha0, hr0⟩ := arr_at (ty := .int) (fun C h => by cases h) (hts _ q132)
  obtain ⟨a1, ha1, hr1⟩ := arr_at (ty := .char) (fun C h => by cases h) (hts _ q131)
  obtain ⟨a2, ha2, hr2⟩ := arr_at (ty := .boolean) (fun C h => by cases h) (hts _ q1376)
  obtain ⟨a3, ha3, hr3⟩ := arr_at (ty := .long) (fun C h => by cases h) (hts _ q1375)
  obtain ⟨a4, ha4, hr4⟩ := arr_at (ty := .double) (fun C h => by cases h) (hts _ q1720)
  obtain ⟨a5, ha5, hr5⟩ := arr_ob (args := #[]) (C := RX0) (va_AO.use (EV.ao hE0 (by decide +kernel)))
  obtain ⟨a6, ha6, hr6⟩ := arr_ob (args := #[]) (C := RX2) (va_AO.use (EV.ao hE0 (by decide +kernel)))
  obtain ⟨a7, ha7, hr7⟩ := arr_ob (args := #[]) (C := RX5) (va_AO.use (EV.ao hE0 (by decide +kernel)))
  obtain ⟨a8, ha8, hr8⟩ := arr_ob (args := #[]) (C := RX3) (va_AO.use (EV.ao hE0 (by decide +kernel)))
  obtain ⟨a9, ha9, hr9⟩ := arr_ob (args := #[]) (C := RX4) (va_AO.use (EV.ao hE0 (by decide +kernel)))
  obtain ⟨cA, hcA⟩ : ∃ cA : Nat → ClassId, ∀ (k : Nat) (ty : FieldType), ([FieldType.int, .char, .boolean, .long, .double, .object RX0, .object RX2, .object RX5, .object RX3, .object RX4] : List FieldType)[k]? = some ty → ArrOfT s (cA k) ty ∧ va_RA s (cA k) ty := by
    refine ⟨fun k => [a0, a1, a2, a3, a4, a5, a6, a7, a8, a9].getD k a0, ?_⟩
    intro k ty hk
    match k, hk with
    | 0, hk => cases hk; exact ⟨ha0, hr0⟩
    | 1, hk => cases hk; exact ⟨ha1, hr1⟩
    | 2, hk => cases hk; exact ⟨ha2, hr2⟩
    | 3, hk => cases hk; exact ⟨ha3, hr3⟩
    | 4, hk => cases hk; exact ⟨ha4, hr4⟩
    | 5, hk => cases hk; exact ⟨ha5, hr5⟩
    | 6, hk => cases hk; exact ⟨ha6, hr6⟩
    | 7, hk => cases hk; exact ⟨ha7, hr7⟩
    | 8, hk => cases hk; exact ⟨ha8, hr8⟩
    | 9, hk => cases hk; exact ⟨ha9, hr9⟩
    | k + 10, hk => simp at hk
  obtain ⟨Z, hZe⟩ : ∃ Z : ZT, Z = ((dC, dI), cA, fun kd i => s.heap.size + off kd i) := ⟨_, rfl⟩
  have hZ : wD Z := by rw [hZe]; exact wD_off _ _ _
  have hK : wK Z s := by
    rw [hZe]
    refine ⟨hKc, fun k q hq => ?_⟩
    match k, hq with
    | 0, hq => cases hq; exact hcA 0 _ rfl
    | 1, hq => cases hq; exact hcA 1 _ rfl
    | 2, hq => cases hq; exact hcA 2 _ rfl
    | 3, hq => cases hq; exact hcA 3 _ rfl
    | 4, hq => cases hq; exact hcA 4 _ rfl
    | 5, hq => cases hq; exact hcA 5 _ rfl
    | 6, hq => cases hq; exact hcA 6 _ rfl
    | 7, hq => cases hq; exact hcA 7 _ rfl
    | 8, hq => cases hq; exact hcA 8 _ rfl
    | 9, hq => cases hq; exact hcA 9 _ rfl
    | k + 10, hq => simp [tyA] at hq
  have hge : ∀ q, wA Z s.heap.size q → s.heap.size ≤ q := fun q h => by
    rcases h with ⟨kd, i, -, h⟩ | h
    · rw [h, hZe]; exact Nat.le_add_right _ _
    · exact h
  have hE : EV (wA Z s.heap.size) s := EV.to hE0 (va_S.rf (A := fun q : Nat => s.heap.size ≤ q)) rfl (State.WarmedH.refl s) hge
  have hbA : ¬ wA Z s.heap.size b := fun h => absurd (hge b h) (Nat.not_le.mpr hbl)
  have hA : ∀ q : Nat, s.heap.size ≤ q → (fun q : Nat => s.heap.size ≤ q) q := fun _ h => h
  have hS : va_S (fun q : Nat => s.heap.size ≤ q) s.heap s.heap [] := va_S.rf
  have hP : va_P Z.1 vwCl [] s.heap := fun k q h => by simp at h
  have hD : va_D (fun q : Nat => s.heap.size ≤ q) [] := ⟨fun i j p q h => by simp at h, fun k q h => by simp at h⟩
  have hN : s.heap.size = s.heap.size := rfl
  have hl := lv_entry ([.ref b]) (n := 9) (Nat.le_of_ble_eq_true rfl)
  rw [lg_entry_eq]
  generalize (lg_sl ([.ref b]) ++ List.replicate (9 - (lg_sl ([.ref b])).length) Slot.unset).toArray = ls at hl ⊢
  have hl : lv_has ls 9 [(0, .ref b)] := hl
  refine cn_new (ci := 8) (fs := [.null, .null, .null, .null, .null, .null, .null, .null, .null, .int 0, .int 0, .int 0, .int 0, .int 0, .int 0, .int 0]) (C := RX6) (T := TX6) (N := 16) hx hb hts hin_RX6 tyX6 tyX6_ok hown (hts _ q101) (hts _ q102) (hts _ q77) hK hP hD hS hA hN rfl (fun j hj => by rcases (show j = 0 ∨ j = 1 ∨ j = 2 ∨ j = 3 ∨ j = 4 ∨ j = 5 ∨ j = 6 ∨ j = 7 ∨ j = 8 ∨ j = 9 ∨ j = 10 ∨ j = 11 ∨ j = 12 ∨ j = 13 ∨ j = 14 ∨ j = 15 by omega) with rfl | rfl | rfl | rfl | rfl | rfl | rfl | rfl | rfl | rfl | rfl | rfl | rfl | rfl | rfl | rfl <;> rfl) (Nat.le_of_ble_eq_true rfl) (Nat.le_of_ble_eq_true rfl) dL_law_0 (fun H hP hD hS hN => ?_)
  refine lv_dup hx hb dL_law_3 rfl ?_
  refine wc_I (b := s.heap.size) (e9 := .inr (8, [.null, .null, .null, .null, .null, .null, .null, .null, .null, .int 0, .int 0, .int 0, .int 0, .int 0, .int 0, .int 0])) (wb := []) (w1 := fin_X6_init Z (s.heap.size) (s.heap.size + 1)) (N0 := s.heap.size + 1) (k := 557) (rest := [.ref (s.heap.size)]) ⟨hx, hb, hml, hown, hts⟩ (k_X6_init l hfl Z (s.heap.size) (s.heap.size + 1)) (ci_RL_153 (args := _) (s := s) hts (Nat.le_of_ble_eq_true rfl) (Nat.le_of_ble_eq_true rfl)) hE0 hP hK hD hS hA hN rfl hl.1 (Nat.le_of_ble_eq_true rfl) dL_law_4 ⟨Nat.le_of_ble_eq_true rfl, Nat.le_of_ble_eq_true rfl⟩ (d_X6_init (s.heap.size) (s.heap.size + 1) (Nat.lt_succ_self _)) (fun H locs hP hD hS hN => ?_)
  refine lv_astore_n (lv' := [(1, .ref s.heap.size), (0, .ref b)]) hx hb dL_law_7 rfl hl (by decide) rfl (fun ls hl => ?_)
  have hN : H.size = s.heap.size + 558 := hN
  have hP : va_P Z.1 vwCl (fin_X6_init Z s.heap.size (s.heap.size + 1)) H := hP
  have hD : va_D (fun q : Nat => s.heap.size ≤ q) (fin_X6_init Z s.heap.size (s.heap.size + 1)) := hD
  refine cn_new (ci := 9) (fs := [.int 0, .int 0, .int 0, .int 0, .int 0, .int 0, .int 0, .int 0, .int 0, .int 0, .null, .null, .null, .null, .null, .null, .null, .null, .null, .null, .null, .null, .null, .null, .null, .null, .null, .null, .null, .null, .null, .null, .null, .null, .null, .null, .null, .null, .int 0, .int 0, .int 0, .int 0, .int 0, .int 0, .int 0, .null]) (C := RX7) (T := TX7) (N := 46) hx hb hts hin_RX7 tyX7 tyX7_ok hown (hts _ q1230) (hts _ q1231) (hts _ q84) hK hP hD hS hA hN rfl (fun j hj => by rcases (show j = 0 ∨ j = 1 ∨ j = 2 ∨ j = 3 ∨ j = 4 ∨ j = 5 ∨ j = 6 ∨ j = 7 ∨ j = 8 ∨ j = 9 ∨ j = 10 ∨ j = 11 ∨ j = 12 ∨ j = 13 ∨ j = 14 ∨ j = 15 ∨ j = 16 ∨ j = 17 ∨ j = 18 ∨ j = 19 ∨ j = 20 ∨ j = 21 ∨ j = 22 ∨ j = 23 ∨ j = 24 ∨ j = 25 ∨ j = 26 ∨ j = 27 ∨ j = 28 ∨ j = 29 ∨ j = 30 ∨ j = 31 ∨ j = 32 ∨ j = 33 ∨ j = 34 ∨ j = 35 ∨ j = 36 ∨ j = 37 ∨ j = 38 ∨ j = 39 ∨ j = 40 ∨ j = 41 ∨ j = 42 ∨ j = 43 ∨ j = 44 ∨ j = 45 by omega) with rfl | rfl | rfl | rfl | rfl | rfl | rfl | rfl | rfl | rfl | rfl | rfl | rfl | rfl | rfl | rfl | rfl | rfl | rfl | rfl | rfl | rfl | rfl | rfl | rfl | rfl | rfl | rfl | rfl | rfl | rfl | rfl | rfl | rfl | rfl | rfl | rfl | rfl | rfl | rfl | rfl | rfl | rfl | rfl | rfl | rfl <;> rfl) (Nat.le_of_ble_eq_true rfl) (Nat.le_of_ble_eq_true rfl) dL_law_8 (fun H hP hD hS hN => ?_)
  refine lv_dup hx hb dL_law_11 rfl ?_
  refine wc_I (b := s.heap.size + 558) (e9 := .inr (9, [.int 0, .int 0, .int 0, .int 0, .int 0, .int 0, .int 0, .int 0, .int 0, .int 0, .null, .null, .null, .null, .null, .null, .null, .null, .null, .null, .null, .null, .null, .null, .null, .null, .null, .null, .null, .null, .null, .null, .null, .null, .null, .null, .null, .null, .int 0, .int 0, .int 0, .int 0, .int 0, .int 0, .int 0, .null])) (wb := fin_X6_init Z s.heap.size (s.heap.size + 1)) (w1 := fin_X7_init Z (s.heap.size + 558) (s.heap.size + 559)) (N0 := s.heap.size + 559) (k := 29) (rest := [.ref (s.heap.size + 558)]) ⟨hx, hb, hml, hown, hts⟩ (k_X7_init l hfl Z (s.heap.size + 558) (s.heap.size + 559)) (ci_RL_156 (args := _) (s := s) hts (Nat.le_of_ble_eq_true rfl) (Nat.le_of_ble_eq_true rfl)) hE0 hP hK hD hS hA hN rfl hl.1 (Nat.le_of_ble_eq_true rfl) dL_law_12 ⟨Nat.le_of_ble_eq_true rfl, Nat.le_of_ble_eq_true rfl⟩ (d_X7_init (s.heap.size + 558) (s.heap.size + 559) (Nat.lt_succ_self _)) (fun H locs hP hD hS hN => ?_)
  refine lv_astore_n (lv' := [(2, .ref (s.heap.size + 558)), (1, .ref s.heap.size), (0, .ref b)]) hx hb dL_law_15 rfl hl (by decide) rfl (fun ls hl => ?_)
  have hN : H.size = s.heap.size + 588 := hN
  refine lv_iconst (v := (1 : Int32)) hx hb dL_law_16 (by decide) ?_
  refine cn_newa (t := 3) (atype := .long) (ty := .long) (a0 := (1, .inr (.inl (fun _ => 0)))) (N' := 1) hx hb (hts _ q1375) rfl rfl hK hP hD hS hA hN (fun _ => rfl) (by decide) rfl (Nat.le_of_ble_eq_true rfl) (Nat.le_of_ble_eq_true rfl) (Nat.le_of_ble_eq_true rfl) dL_law_17 (fun H hP hD hS hN => ?_)
  refine lv_astore_n (lv' := [(3, .ref (s.heap.size + 588)), (2, .ref (s.heap.size + 558)), (1, .ref s.heap.size), (0, .ref b)]) hx hb dL_law_19 rfl hl (by decide) rfl (fun ls hl => ?_)
  have hN : H.size = s.heap.size + 589 := hN
  refine lv_iconst (v := (1 : Int32)) hx hb dL_law_20 (by decide) ?_
  refine cn_newa (t := 4) (atype := .double) (ty := .double) (a0 := (1, .inr (.inr (.inr (.inl (fun _ => 0)))))) (N' := 1) hx hb (hts _ q1720) rfl rfl hK hP hD hS hA hN (fun _ => rfl) (by decide) rfl (Nat.le_of_ble_eq_true rfl) (Nat.le_of_ble_eq_true rfl) (Nat.le_of_ble_eq_true rfl) dL_law_21 (fun H hP hD hS hN => ?_)
  refine lv_astore (lv' := [(4, .ref (s.heap.size + 589)), (3, .ref (s.heap.size + 588)), (2, .ref (s.heap.size + 558)), (1, .ref s.heap.size), (0, .ref b)]) hx hb dL_law_23 hl (by decide) rfl (fun ls hl => ?_)
  refine lv_iconst (v := (0 : Int32)) hx hb dL_law_25 (by decide) ?_
  refine lv_istore (lv' := [(5, .int (0 : Int32)), (4, .ref (s.heap.size + 589)), (3, .ref (s.heap.size + 588)), (2, .ref (s.heap.size + 558)), (1, .ref s.heap.size), (0, .ref b)]) hx hb dL_law_26 hl (by decide) rfl (fun ls hl => ?_)
  have hX6 := vP_l (vP_l (vP_l hP))
  have hX7 := vP_r (vP_l (vP_l hP))
  have h56 := vP_r (vP_l hP) 0 _ rfl
  have h57 := vP_r hP 0 _ rfl
  have hW : wP Z (S0, S0, S0) H := by
    rw [hZe] at hX6 hX7 h56 h57 ⊢
    exact as_all hX6 hX7 h56 h57
  have hS2 : va_S (wA Z s.heap.size) s.heap H _ := ⟨hS.1, fun q h1 h2 => hS.2.1 q h1 (fun h => h2 (Or.inr h)), fun z hz => Or.inr (hS.2.2 z hz)⟩
  have hl : lv_has ls 9 [(5, .int (0 : Int32)), (4, .ref (Z.2.2 57 0)), (3, .ref (Z.2.2 56 0)), (2, .ref (Z.2.2 26 0)), (1, .ref (Z.2.2 0 0)), (0, .ref b)] := by
    rw [hZe]
    exact hl
  refine law_loop hfl hZ hx hb hml hown hts hE hK hX hbl hbA (fun H locs ls cells slots hc hs hS => ?_) 1000 0 S0 S0 S0 H _ ls _ _ (Nat.le_of_ble_eq_true rfl) (Nat.le_of_ble_eq_true rfl) (whole_pure hL) hW hS2 hl
  exact va_forget (fun z hz => hge _ (hS.2.2 z hz)) (W.widen (k := 603072) (n := 7223402) hc hs (lw_ret (Drawn.sameBut.refl s.drawn lw_cs) hx hb hr hlocks dL_law_1628))