def ws_X3_init : List Cond := .code yX3_init cX3_init 1 none :: lw_all
def rm_X3_init : Room := { frames := 1, cells := 2, slots := 48, locals := 20 }
def fin_X3_init (Z : ZT) (h0 sz : Nat) : va_W := [(h0, .inr (5, [.ref sz, .ref (sz + 1), .int 0])), (sz, .inl (Z.2.1 1, 24, .inl (fun _ => 0))), ((sz + 1), .inl (Z.2.1 0, 24, .inl (fun _ => 0)))]
theorem d_X3_init {Z : ZT} (h0 sz : Nat) (h : h0 < sz) : va_D (va_A [(h0, .inr (5, [.null, .null, .int 0]))] sz) (fin_X3_init Z h0 sz) := cn_D _ 2 rfl h
set_option maxHeartbeats 4000000 in
set_option maxRecDepth 100000 in
theorem k_X3_init (l : Launch) (hfl : l.stackTraces = false) (Z : ZT) (h0 sz : Nat) : vx_Met l yX3_init ws_X3_init rm_X3_init (va_Pc [.ref h0] (iP Z [(h0, .inr (5, [.null, .null, .int 0]))] sz)) (iQ Z (fin_X3_init Z h0 sz) (sz + 2) (va_A [(h0, .inr (5, [.null, .null, .int 0]))] sz)) (iX (va_A [(h0, .inr (5, [.null, .null, .int 0]))] sz)) 2 48 (va_A [(h0, .inr (5, [.null, .null, .int 0]))] sz) := by
  refine vx_ofW (cc := cX3_init) (maxL := 1) (ret := none) (by decide) rfl ?_
  intro p e s m args below meth c s₁ B hml htab hv
  obtain ⟨hargs, hsz, hE, hP, hK, hD0⟩ := hv
  have hx := B.exec
  have hb := B.bytes
  have hr := B.returns
  have hts0 := atoms_spec (ws := ws_X3_init) B.pre
  have hts : ∀ w ∈ lw_all, w.before args s = true := fun w h => hts0 w (List.mem_cons_of_mem _ h)
  have hown : s.vm.findClass RX3 = some m.cls := findClass_of_methodNamed B.named
  have hlocks := B.notSynchronized
  have hin : meth.name = "<init>" := (name_of_methodNamed B.named B.method).1
  have hS : va_S (va_A [(h0, .inr (5, [.null, .null, .int 0]))] sz) s.heap s.heap [] := va_S.rf
  have hA : ∀ q : Nat, s.heap.size ≤ q → (va_A [(h0, .inr (5, [.null, .null, .int 0]))] sz) q := fun q h => Or.inr (hsz ▸ h)
  have hD : va_D (va_A [(h0, .inr (5, [.null, .null, .int 0]))] sz) [(h0, .inr (5, [.null, .null, .int 0]))] := hD0.self
  have hN : s.heap.size = sz := hsz
  have hl := lv_entry ([.ref h0]) (n := 1) (Nat.le_of_ble_eq_true rfl)
  have hen : entryFrame m args 1 = entryFrame m ([.ref h0] : List Value).toArray 1 := by rw [hargs]
  rw [hen, lg_entry_eq]
  generalize (lg_sl ([.ref h0]) ++ List.replicate (1 - (lg_sl ([.ref h0])).length) Slot.unset).toArray = ls at hl ⊢
  have hl : lv_has ls 1 [(0, .ref h0)] := hl
  refine lv_aload_n hx hb dX3_init_0 rfl (lv_at hl 0 rfl) ?_
  refine W.objInit hx hb hown (hts _ q114) (hts _ q107) (hts _ q108) rfl (by rw [hml]; exact hl.1) rfl dX3_init_1 (Nat.le_of_ble_eq_true rfl) (Nat.le_of_ble_eq_true rfl) ?_
  refine W.eq (g2 := F0 m 4 ls []) rfl ?_
  refine lv_aload_n hx hb dX3_init_4 rfl (lv_at hl 0 rfl) ?_
  refine lv_bipush (v := (24 : Int32)) hx hb dX3_init_5 (by decide) ?_
  refine cn_newa (t := 1) (atype := .char) (ty := .char) (a0 := (24, .inl (fun _ => 0))) (N' := 24) hx hb (hts _ q131) rfl rfl hK hP hD hS hA hN (fun _ => rfl) (by decide) rfl (Nat.le_of_ble_eq_true rfl) (Nat.le_of_ble_eq_true rfl) (Nat.le_of_ble_eq_true rfl) dX3_init_7 (fun H hP hD hS hN => ?_)
  have hP : va_P Z.1 vwCl [(h0, .inr (5, [.null, .null, .int 0])), (sz, .inl (Z.2.1 1, 24, .inl (fun _ => 0)))] H := hP
  have hD : va_D (va_A [(h0, .inr (5, [.null, .null, .int 0]))] sz) [(h0, .inr (5, [.null, .null, .int 0])), (sz, .inl (Z.2.1 1, 24, .inl (fun _ => 0)))] := hD
  have hN : H.size = sz + 1 := hN
  refine cn_putF (ci := 5) (v := .ref sz) (ty := .array .char) (C := RX3) (T := TX3) (N := 3) hx hb hts hin_RX3 tyX3 tyX3_ok nmX3 hown hK hP hD hS hN 0 rfl rfl 0 (by decide) (hts _ q115) (fun _ h9 => h9) rfl hin rfl (by decide +kernel) rfl rfl (Nat.le_of_ble_eq_true rfl) dX3_init_9 (fun H locs hP hD hS hN => ?_)
  have hP : va_P Z.1 vwCl [(h0, .inr (5, [.ref sz, .null, .int 0])), (sz, .inl (Z.2.1 1, 24, .inl (fun _ => 0)))] H := hP
  have hD : va_D (va_A [(h0, .inr (5, [.null, .null, .int 0]))] sz) [(h0, .inr (5, [.ref sz, .null, .int 0])), (sz, .inl (Z.2.1 1, 24, .inl (fun _ => 0)))] := hD
  refine lv_aload_n hx hb dX3_init_12 rfl (lv_at hl 0 rfl) ?_
  refine lv_bipush (v := (24 : Int32)) hx hb dX3_init_13 (by decide) ?_
  refine cn_newa (t := 0) (atype := .int) (ty := .int) (a0 := (24, .inl (fun _ => 0))) (N' := 24) hx hb (hts _ q132) rfl rfl hK hP hD hS hA hN (fun _ => rfl) (by decide) rfl (Nat.le_of_ble_eq_true rfl) (Nat.le_of_ble_eq_true rfl) (Nat.le_of_ble_eq_true rfl) dX3_init_15 (fun H hP hD hS hN => ?_)
  have hP : va_P Z.1 vwCl [(h0, .inr (5, [.ref sz, .null, .int 0])), (sz, .inl (Z.2.1 1, 24, .inl (fun _ => 0))), ((sz + 1), .inl (Z.2.1 0, 24, .inl (fun _ => 0)))] H := hP
  have hD : va_D (va_A [(h0, .inr (5, [.null, .null, .int 0]))] sz) [(h0, .inr (5, [.ref sz, .null, .int 0])), (sz, .inl (Z.2.1 1, 24, .inl (fun _ => 0))), ((sz + 1), .inl (Z.2.1 0, 24, .inl (fun _ => 0)))] := hD
  have hN : H.size = sz + 2 := hN
  refine cn_putF (ci := 5) (v := .ref (sz + 1)) (ty := .array .int) (C := RX3) (T := TX3) (N := 3) hx hb hts hin_RX3 tyX3 tyX3_ok nmX3 hown hK hP hD hS hN 0 rfl rfl 1 (by decide) (hts _ q118) (fun _ h9 => h9) rfl hin rfl (by decide +kernel) rfl rfl (Nat.le_of_ble_eq_true rfl) dX3_init_17 (fun H locs hP hD hS hN => ?_)
  have hP : va_P Z.1 vwCl [(h0, .inr (5, [.ref sz, .ref (sz + 1), .int 0])), (sz, .inl (Z.2.1 1, 24, .inl (fun _ => 0))), ((sz + 1), .inl (Z.2.1 0, 24, .inl (fun _ => 0)))] H := hP
  have hD : va_D (va_A [(h0, .inr (5, [.null, .null, .int 0]))] sz) [(h0, .inr (5, [.ref sz, .ref (sz + 1), .int 0])), (sz, .inl (Z.2.1 1, 24, .inl (fun _ => 0))), ((sz + 1), .inl (Z.2.1 0, 24, .inl (fun _ => 0)))] := hD
  refine lv_aload_n hx hb dX3_init_20 rfl (lv_at hl 0 rfl) ?_
  refine lv_iconst (v := (0 : Int32)) hx hb dX3_init_21 (by decide) ?_
  refine cn_put (ci := 5) (v := .int 0) (ty := .int) (C := RX3) (T := TX3) (N := 3) hx hb hts hin_RX3 tyX3 tyX3_ok nmX3 hown hK hP hD hS hN 0 rfl rfl 2 (by decide) (hts _ q120) (fun _ h9 => h9) rfl (by decide +kernel) rfl rfl (Nat.le_of_ble_eq_true rfl) dX3_init_22 (fun H locs hP hD hS hN => ?_)
  have hP : va_P Z.1 vwCl [(h0, .inr (5, [.ref sz, .ref (sz + 1), .int 0])), (sz, .inl (Z.2.1 1, 24, .inl (fun _ => 0))), ((sz + 1), .inl (Z.2.1 0, 24, .inl (fun _ => 0)))] H := hP
  have hD : va_D (va_A [(h0, .inr (5, [.null, .null, .int 0]))] sz) [(h0, .inr (5, [.ref sz, .ref (sz + 1), .int 0])), (sz, .inl (Z.2.1 1, 24, .inl (fun _ => 0))), ((sz + 1), .inl (Z.2.1 0, 24, .inl (fun _ => 0)))] := hD
  exact we_I (e9 := .inr (5, [.null, .null, .int 0])) (b := h0) (sz := sz) hx hb hr hlocks hP hN hS dX3_init_25 (by decide) (by decide)
theorem ci_RX6_9 {R : Room} {s : State} {args : Array Value} (hts : ∀ w ∈ lw_all, w.before args s = true) (h1 : rm_X3_init.frames + 1 ≤ R.frames) (h2 : 8 + (1 + 11) + rm_X3_init.locals ≤ R.locals) : CallB R s args RX6 9 yX3_init cX3_init 1 none ws_X3_init rm_X3_init 2 48 0 ∧ yX3_init.name = "<init>" ∧ (Cond.instanceMethod yX3_init).before args s = true := cwI 0 hts (lw_gc q113) rfl rfl rfl (hts _ q78) (hts _ q111) (hts _ q112) rfl (by decide +kernel) ⟨h1, h2⟩
theorem ci_RX2_28 {R : Room} {s : State} {args : Array Value} (hts : ∀ w ∈ lw_all, w.before args s = true) (h1 : rm_X3_init.frames + 1 ≤ R.frames) (h2 : 8 + (1 + 11) + rm_X3_init.locals ≤ R.locals) : CallB R s args RX2 28 yX3_init cX3_init 1 none ws_X3_init rm_X3_init 2 48 0 ∧ yX3_init.name = "<init>" ∧ (Cond.instanceMethod yX3_init).before args s = true := cwI 0 hts (lw_gc q113) rfl rfl rfl (hts _ q78) (hts _ q234) (hts _ q112) rfl (by decide +kernel) ⟨h1, h2⟩
theorem ci_RX5_11 {R : Room} {s : State} {args : Array Value} (hts : ∀ w ∈ lw_all, w.before args s = true) (h1 : rm_X3_init.frames + 1 ≤ R.frames) (h2 : 8 + (1 + 11) + rm_X3_init.locals ≤ R.locals) : CallB R s args RX5 11 yX3_init cX3_init 1 none ws_X3_init rm_X3_init 2 48 0 ∧ yX3_init.name = "<init>" ∧ (Cond.instanceMethod yX3_init).before args s = true := cwI 0 hts (lw_gc q113) rfl rfl rfl (hts _ q78) (hts _ q258) (hts _ q112) rfl (by decide +kernel) ⟨h1, h2⟩
def ws_X4_init : List Cond := .code yX4_init cX4_init 1 none :: lw_all
def rm_X4_init : Room := { frames := 1, cells := 2, slots := 10, locals := 20 }
def fin_X4_init (Z : ZT) (h0 sz : Nat) : va_W := [(h0, .inr (6, [.ref sz, .ref (sz + 1), .int 0, .int 0, .int 0])), (sz, .inl (Z.2.1 0, 4, .inl (fun _ => 0))), ((sz + 1), .inl (Z.2.1 0, 6, .inl (fun _ => 0)))]
theorem d_X4_init {Z : ZT} (h0 sz : Nat) (h : h0 < sz) : va_D (va_A [(h0, .inr (6, [.null, .null, .int 0, .int 0, .int 0]))] sz) (fin_X4_init Z h0 sz) := cn_D _ 2 rfl h
set_option maxHeartbeats 4000000 in
set_option maxRecDepth 100000 in
theorem k_X4_init (l : Launch) (hfl : l.stackTraces = false) (Z : ZT) (h0 sz : Nat) : vx_Met l yX4_init ws_X4_init rm_X4_init (va_Pc [.ref h0] (iP Z [(h0, .inr (6, [.null, .null, .int 0, .int 0, .int 0]))] sz)) (iQ Z (fin_X4_init Z h0 sz) (sz + 2) (va_A [(h0, .inr (6, [.null, .null, .int 0, .int 0, .int 0]))] sz)) (iX (va_A [(h0, .inr (6, [.null, .null, .int 0, .int 0, .int 0]))] sz)) 2 10 (va_A [(h0, .inr (6, [.null, .null, .int 0, .int 0, .int 0]))] sz) := by
  refine vx_ofW (cc := cX4_init) (maxL := 1) (ret := none) (by decide) rfl ?_
  intro p e s m args below meth c s₁ B hml htab hv
  obtain ⟨hargs, hsz, hE, hP, hK, hD0⟩ := hv
  have hx := B.exec
  have hb := B.bytes
  have hr := B.returns
  have hts0 := atoms_spec (ws := ws_X4_init) B.pre
  have hts : ∀ w ∈ lw_all, w.before args s = true := fun w h => hts0 w (List.mem_cons_of_mem _ h)
  have hown : s.vm.findClass RX4 = some m.cls := findClass_of_methodNamed B.named
  have hlocks := B.notSynchronized
  have hin : meth.name = "<init>" := (name_of_methodNamed B.named B.method).1
  have hS : va_S (va_A [(h0, .inr (6, [.null, .null, .int 0, .int 0, .int 0]))] sz) s.heap s.heap [] := va_S.rf
  have hA : ∀ q : Nat, s.heap.size ≤ q → (va_A [(h0, .inr (6, [.null, .null, .int 0, .int 0, .int 0]))] sz) q := fun q h => Or.inr (hsz ▸ h)
  have hD : va_D (va_A [(h0, .inr (6, [.null, .null, .int 0, .int 0, .int 0]))] sz) [(h0, .inr (6, [.null, .null, .int 0, .int 0, .int 0]))] := hD0.self
  have hN : s.heap.size = sz := hsz
  have hl := lv_entry ([.ref h0]) (n := 1) (Nat.le_of_ble_eq_true rfl)
  have hen : entryFrame m args 1 = entryFrame m ([.ref h0] : List Value).toArray 1 := by rw [hargs]
  rw [hen, lg_entry_eq]
  generalize (lg_sl ([.ref h0]) ++ List.replicate (1 - (lg_sl ([.ref h0])).length) Slot.unset).toArray = ls at hl ⊢
  have hl : lv_has ls 1 [(0, .ref h0)] := hl
  refine lv_aload_n hx hb dX4_init_0 rfl (lv_at hl 0 rfl) ?_
  refine W.objInit hx hb hown (hts _ q138) (hts _ q107) (hts _ q108) rfl (by rw [hml]; exact hl.1) rfl dX4_init_1 (Nat.le_of_ble_eq_true rfl) (Nat.le_of_ble_eq_true rfl) ?_
  refine W.eq (g2 := F0 m 4 ls []) rfl ?_
  refine lv_aload_n hx hb dX4_init_4 rfl (lv_at hl 0 rfl) ?_
  refine lv_iconst (v := (4 : Int32)) hx hb dX4_init_5 (by decide) ?_
  refine cn_newa (t := 0) (atype := .int) (ty := .int) (a0 := (4, .inl (fun _ => 0))) (N' := 4) hx hb (hts _ q132) rfl rfl hK hP hD hS hA hN (fun _ => rfl) (by decide) rfl (Nat.le_of_ble_eq_true rfl) (Nat.le_of_ble_eq_true rfl) (Nat.le_of_ble_eq_true rfl) dX4_init_6 (fun H hP hD hS hN => ?_)
  have hP : va_P Z.1 vwCl [(h0, .inr (6, [.null, .null, .int 0, .int 0, .int 0])), (sz, .inl (Z.2.1 0, 4, .inl (fun _ => 0)))] H := hP
  have hD : va_D (va_A [(h0, .inr (6, [.null, .null, .int 0, .int 0, .int 0]))] sz) [(h0, .inr (6, [.null, .null, .int 0, .int 0, .int 0])), (sz, .inl (Z.2.1 0, 4, .inl (fun _ => 0)))] := hD
  have hN : H.size = sz + 1 := hN
  refine cn_putF (ci := 6) (v := .ref sz) (ty := .array .int) (C := RX4) (T := TX4) (N := 5) hx hb hts hin_RX4 tyX4 tyX4_ok nmX4 hown hK hP hD hS hN 0 rfl rfl 0 (by decide) (hts _ q139) (fun _ h9 => h9) rfl hin rfl (by decide +kernel) rfl rfl (Nat.le_of_ble_eq_true rfl) dX4_init_8 (fun H locs hP hD hS hN => ?_)
  have hP : va_P Z.1 vwCl [(h0, .inr (6, [.ref sz, .null, .int 0, .int 0, .int 0])), (sz, .inl (Z.2.1 0, 4, .inl (fun _ => 0)))] H := hP
  have hD : va_D (va_A [(h0, .inr (6, [.null, .null, .int 0, .int 0, .int 0]))] sz) [(h0, .inr (6, [.ref sz, .null, .int 0, .int 0, .int 0])), (sz, .inl (Z.2.1 0, 4, .inl (fun _ => 0)))] := hD
  refine lv_aload_n hx hb dX4_init_11 rfl (lv_at hl 0 rfl) ?_
  refine lv_bipush (v := (6 : Int32)) hx hb dX4_init_12 (by decide) ?_
  refine cn_newa (t := 0) (atype := .int) (ty := .int) (a0 := (6, .inl (fun _ => 0))) (N' := 6) hx hb (hts _ q132) rfl rfl hK hP hD hS hA hN (fun _ => rfl) (by decide) rfl (Nat.le_of_ble_eq_true rfl) (Nat.le_of_ble_eq_true rfl) (Nat.le_of_ble_eq_true rfl) dX4_init_14 (fun H hP hD hS hN => ?_)
  have hP : va_P Z.1 vwCl [(h0, .inr (6, [.ref sz, .null, .int 0, .int 0, .int 0])), (sz, .inl (Z.2.1 0, 4, .inl (fun _ => 0))), ((sz + 1), .inl (Z.2.1 0, 6, .inl (fun _ => 0)))] H := hP
  have hD : va_D (va_A [(h0, .inr (6, [.null, .null, .int 0, .int 0, .int 0]))] sz) [(h0, .inr (6, [.ref sz, .null, .int 0, .int 0, .int 0])), (sz, .inl (Z.2.1 0, 4, .inl (fun _ => 0))), ((sz + 1), .inl (Z.2.1 0, 6, .inl (fun _ => 0)))] := hD
  have hN : H.size = sz + 2 := hN
  refine cn_putF (ci := 6) (v := .ref (sz + 1)) (ty := .array .int) (C := RX4) (T := TX4) (N := 5) hx hb hts hin_RX4 tyX4 tyX4_ok nmX4 hown hK hP hD hS hN 0 rfl rfl 1 (by decide) (hts _ q141) (fun _ h9 => h9) rfl hin rfl (by decide +kernel) rfl rfl (Nat.le_of_ble_eq_true rfl) dX4_init_16 (fun H locs hP hD hS hN => ?_)
  have hP : va_P Z.1 vwCl [(h0, .inr (6, [.ref sz, .ref (sz + 1), .int 0, .int 0, .int 0])), (sz, .inl (Z.2.1 0, 4, .inl (fun _ => 0))), ((sz + 1), .inl (Z.2.1 0, 6, .inl (fun _ => 0)))] H := hP
  have hD : va_D (va_A [(h0, .inr (6, [.null, .null, .int 0, .int 0, .int 0]))] sz) [(h0, .inr (6, [.ref sz, .ref (sz + 1), .int 0, .int 0, .int 0])), (sz, .inl (Z.2.1 0, 4, .inl (fun _ => 0))), ((sz + 1), .inl (Z.2.1 0, 6, .inl (fun _ => 0)))] := hD
  refine lv_aload_n hx hb dX4_init_19 rfl (lv_at hl 0 rfl) ?_
  refine lv_iconst (v := (0 : Int32)) hx hb dX4_init_20 (by decide) ?_
  refine cn_put (ci := 6) (v := .int 0) (ty := .int) (C := RX4) (T := TX4) (N := 5) hx hb hts hin_RX4 tyX4 tyX4_ok nmX4 hown hK hP hD hS hN 0 rfl rfl 2 (by decide) (hts _ q143) (fun _ h9 => h9) rfl (by decide +kernel) rfl rfl (Nat.le_of_ble_eq_true rfl) dX4_init_21 (fun H locs hP hD hS hN => ?_)
  have hP : va_P Z.1 vwCl [(h0, .inr (6, [.ref sz, .ref (sz + 1), .int 0, .int 0, .int 0])), (sz, .inl (Z.2.1 0, 4, .inl (fun _ => 0))), ((sz + 1), .inl (Z.2.1 0, 6, .inl (fun _ => 0)))] H := hP
  have hD : va_D (va_A [(h0, .inr (6, [.null, .null, .int 0, .int 0, .int 0]))] sz) [(h0, .inr (6, [.ref sz, .ref (sz + 1), .int 0, .int 0, .int 0])), (sz, .inl (Z.2.1 0, 4, .inl (fun _ => 0))), ((sz + 1), .inl (Z.2.1 0, 6, .inl (fun _ => 0)))] := hD
  refine lv_aload_n hx hb dX4_init_24 rfl (lv_at hl 0 rfl) ?_
  refine lv_iconst (v := (0 : Int32)) hx hb dX4_init_25 (by decide) ?_
  refine cn_put (ci := 6) (v := .int 0) (ty := .int) (C := RX4) (T := TX4) (N := 5) hx hb hts hin_RX4 tyX4 tyX4_ok nmX4 hown hK hP hD hS hN 0 rfl rfl 3 (by decide) (hts _ q146) (fun _ h9 => h9) rfl (by decide +kernel) rfl rfl (Nat.le_of_ble_eq_true rfl) dX4_init_26 (fun H locs hP hD hS hN => ?_)
  have hP : va_P Z.1 vwCl [(h0, .inr (6, [.ref sz, .ref (sz + 1), .int 0, .int 0, .int 0])), (sz, .inl (Z.2.1 0, 4, .inl (fun _ => 0))), ((sz + 1), .inl (Z.2.1 0, 6, .inl (fun _ => 0)))] H := hP
  have hD : va_D (va_A [(h0, .inr (6, [.null, .null, .int 0, .int 0, .int 0]))] sz) [(h0, .inr (6, [.ref sz, .ref (sz + 1), .int 0, .int 0, .int 0])), (sz, .inl (Z.2.1 0, 4, .inl (fun _ => 0))), ((sz + 1), .inl (Z.2.1 0, 6, .inl (fun _ => 0)))] := hD
  refine lv_aload_n hx hb dX4_init_29 rfl (lv_at hl 0 rfl) ?_
  refine lv_iconst (v := (0 : Int32)) hx hb dX4_init_30 (by decide) ?_
  refine cn_put (ci := 6) (v := .int 0) (ty := .int) (C := RX4) (T := TX4) (N := 5) hx hb hts hin_RX4 tyX4 tyX4_ok nmX4 hown hK hP hD hS hN 0 rfl rfl 4 (by decide) (hts _ q149) (fun _ h9 => h9) rfl (by decide +kernel) rfl rfl (Nat.le_of_ble_eq_true rfl) dX4_init_31 (fun H locs hP hD hS hN => ?_)
  have hP : va_P Z.1 vwCl [(h0, .inr (6, [.ref sz, .ref (sz + 1), .int 0, .int 0, .int 0])), (sz, .inl (Z.2.1 0, 4, .inl (fun _ => 0))), ((sz + 1), .inl (Z.2.1 0, 6, .inl (fun _ => 0)))] H := hP
  have hD : va_D (va_A [(h0, .inr (6, [.null, .null, .int 0, .int 0, .int 0]))] sz) [(h0, .inr (6, [.ref sz, .ref (sz + 1), .int 0, .int 0, .int 0])), (sz, .inl (Z.2.1 0, 4, .inl (fun _ => 0))), ((sz + 1), .inl (Z.2.1 0, 6, .inl (fun _ => 0)))] := hD
  exact we_I (e9 := .inr (6, [.null, .null, .int 0, .int 0, .int 0])) (b := h0) (sz := sz) hx hb hr hlocks hP hN hS dX4_init_34 (by decide) (by decide)
theorem ci_RX6_18 {R : Room} {s : State} {args : Array Value} (hts : ∀ w ∈ lw_all, w.before args s = true) (h1 : rm_X4_init.frames + 1 ≤ R.frames) (h2 : 8 + (1 + 11) + rm_X4_init.locals ≤ R.locals) : CallB R s args RX6 18 yX4_init cX4_init 1 none ws_X4_init rm_X4_init 2 10 0 ∧ yX4_init.name = "<init>" ∧ (Cond.instanceMethod yX4_init).before args s = true := cwI 0 hts (lw_gc q137) rfl rfl rfl (hts _ q79) (hts _ q135) (hts _ q136) rfl (by decide +kernel) ⟨h1, h2⟩
theorem ci_RX0_24 {R : Room} {s : State} {args : Array Value} (hts : ∀ w ∈ lw_all, w.before args s = true) (h1 : rm_X4_init.frames + 1 ≤ R.frames) (h2 : 8 + (1 + 11) + rm_X4_init.locals ≤ R.locals) : CallB R s args RX0 24 yX4_init cX4_init 1 none ws_X4_init rm_X4_init 2 10 0 ∧ yX4_init.name = "<init>" ∧ (Cond.instanceMethod yX4_init).before args s = true := cwI 0 hts (lw_gc q137) rfl rfl rfl (hts _ q79) (hts _ q213) (hts _ q136) rfl (by decide +kernel) ⟨h1, h2⟩
def ws_X1_init : List Cond := .code yX1_init cX1_init 1 none :: lw_all
def rm_X1_init : Room := { frames := 1, cells := 4, slots := 66, locals := 20 }
def fin_X1_init (Z : ZT) (h0 sz : Nat) : va_W := [(h0, .inr (3, [.ref sz, .ref (sz + 1), .ref (sz + 2), .ref (sz + 3), .int 0, .int 0, .int 0, .int 0, .int 0])), (sz, .inl (Z.2.1 0, 12, .inl (fun _ => 0))), ((sz + 1), .inl (Z.2.1 0, 6, .inl (fun _ => 0))), ((sz + 2), .inl (Z.2.1 0, 24, .inl (fun _ => 0))), ((sz + 3), .inl (Z.2.1 0, 24, .inl (fun _ => 0)))]
theorem d_X1_init {Z : ZT} (h0 sz : Nat) (h : h0 < sz) : va_D (va_A [(h0, .inr (3, [.null, .null, .null, .null, .int 0, .int 0, .int 0, .int 0, .int 0]))] sz) (fin_X1_init Z h0 sz) := cn_D _ 4 rfl h
set_option maxHeartbeats 4000000 in
set_option maxRecDepth 100000 in
theorem k_X1_init (l : Launch) (hfl : l.stackTraces = false) (Z : ZT) (h0 sz : Nat) : vx_Met l yX1_init ws_X1_init rm_X1_init (va_Pc [.ref h0] (iP Z [(h0, .inr (3, [.null, .null, .null, .null, .int 0, .int 0, .int 0, .int 0, .int 0]))] sz)) (iQ Z (fin_X1_init Z h0 sz) (sz + 4) (va_A [(h0, .inr (3, [.null, .null, .null, .null, .int 0, .int 0, .int 0, .int 0, .int 0]))] sz)) (iX (va_A [(h0, .inr (3, [.null, .null, .null, .null, .int 0, .int 0, .int 0, .int 0, .int 0]))] sz)) 4 66 (va_A [(h0, .inr (3, [.null, .null, .null, .null, .int 0, .int 0, .int 0, .int 0, .int 0]))] sz) := by
  refine vx_ofW (cc := cX1_init) (maxL := 1) (ret := none) (by decide) rfl ?_
  intro p e s m args below meth c s₁ B hml htab hv
  obtain ⟨hargs, hsz, hE, hP, hK, hD0⟩ := hv
  have hx := B.exec
  have hb := B.bytes
  have hr := B.returns
  have hts0 := atoms_spec (ws := ws_X1_init) B.pre
  have hts : ∀ w ∈ lw_all, w.before args s = true := fun w h => hts0 w (List.mem_cons_of_mem _ h)
  have hown : s.vm.findClass RX1 = some m.cls := findClass_of_methodNamed B.named
  have hlocks := B.notSynchronized
  have hin : meth.name = "<init>" := (name_of_methodNamed B.named B.method).1
  have hS : va_S (va_A [(h0, .inr (3, [.null, .null, .null, .null, .int 0, .int 0, .int 0, .int 0, .int 0]))] sz) s.heap s.heap [] := va_S.rf
  have hA : ∀ q : Nat, s.heap.size ≤ q → (va_A [(h0, .inr (3, [.null, .null, .null, .null, .int 0, .int 0, .int 0, .int 0, .int 0]))] sz) q := fun q h => Or.inr (hsz ▸ h)
  have hD : va_D (va_A [(h0, .inr (3, [.null, .null, .null, .null, .int 0, .int 0, .int 0, .int 0, .int 0]))] sz) [(h0, .inr (3, [.null, .null, .null, .null, .int 0, .int 0, .int 0, .int 0, .int 0]))] := hD0.self
  have hN : s.heap.size = sz := hsz
  have hl := lv_entry ([.ref h0]) (n := 1) (Nat.le_of_ble_eq_true rfl)
  have hen : entryFrame m args 1 = entryFrame m ([.ref h0] : List Value).toArray 1 := by rw [hargs]
  rw [hen, lg_entry_eq]
  generalize (lg_sl ([.ref h0]) ++ List.replicate (1 - (lg_sl ([.ref h0])).length) Slot.unset).toArray = ls at hl ⊢
  have hl : lv_has ls 1 [(0, .ref h0)] := hl
  refine lv_aload_n hx hb dX1_init_0 rfl (lv_at hl 0 rfl) ?_
  refine W.objInit hx hb hown (hts _ q173) (hts _ q107) (hts _ q108) rfl (by rw [hml]; exact hl.1) rfl dX1_init_1 (Nat.le_of_ble_eq_true rfl) (Nat.le_of_ble_eq_true rfl) ?_
  refine W.eq (g2 := F0 m 4 ls []) rfl ?_
  refine lv_aload_n hx hb dX1_init_4 rfl (lv_at hl 0 rfl) ?_
  refine lv_bipush (v := (12 : Int32)) hx hb dX1_init_5 (by decide) ?_
  refine cn_newa (t := 0) (atype := .int) (ty := .int) (a0 := (12, .inl (fun _ => 0))) (N' := 12) hx hb (hts _ q132) rfl rfl hK hP hD hS hA hN (fun _ => rfl) (by decide) rfl (Nat.le_of_ble_eq_true rfl) (Nat.le_of_ble_eq_true rfl) (Nat.le_of_ble_eq_true rfl) dX1_init_7 (fun H hP hD hS hN => ?_)
  have hP : va_P Z.1 vwCl [(h0, .inr (3, [.null, .null, .null, .null, .int 0, .int 0, .int 0, .int 0, .int 0])), (sz, .inl (Z.2.1 0, 12, .inl (fun _ => 0)))] H := hP
  have hD : va_D (va_A [(h0, .inr (3, [.null, .null, .null, .null, .int 0, .int 0, .int 0, .int 0, .int 0]))] sz) [(h0, .inr (3, [.null, .null, .null, .null, .int 0, .int 0, .int 0, .int 0, .int 0])), (sz, .inl (Z.2.1 0, 12, .inl (fun _ => 0)))] := hD
  have hN : H.size = sz + 1 := hN
  refine cn_putF (ci := 3) (v := .ref sz) (ty := .array .int) (C := RX1) (T := TX1) (N := 9) hx hb hts hin_RX1 tyX1 tyX1_ok nmX1 hown hK hP hD hS hN 0 rfl rfl 0 (by decide) (hts _ q174) (fun _ h9 => h9) rfl hin rfl (by decide +kernel) rfl rfl (Nat.le_of_ble_eq_true rfl) dX1_init_9 (fun H locs hP hD hS hN => ?_)
  have hP : va_P Z.1 vwCl [(h0, .inr (3, [.ref sz, .null, .null, .null, .int 0, .int 0, .int 0, .int 0, .int 0])), (sz, .inl (Z.2.1 0, 12, .inl (fun _ => 0)))] H := hP
  have hD : va_D (va_A [(h0, .inr (3, [.null, .null, .null, .null, .int 0, .int 0, .int 0, .int 0, .int 0]))] sz) [(h0, .inr (3, [.ref sz, .null, .null, .null, .int 0, .int 0, .int 0, .int 0, .int 0])), (sz, .inl (Z.2.1 0, 12, .inl (fun _ => 0)))] := hD
  refine lv_aload_n hx hb dX1_init_12 rfl (lv_at hl 0 rfl) ?_
  refine lv_bipush (v := (6 : Int32)) hx hb dX1_init_13 (by decide) ?_
  refine cn_newa (t := 0) (atype := .int) (ty := .int) (a0 := (6, .inl (fun _ => 0))) (N' := 6) hx hb (hts _ q132) rfl rfl hK hP hD hS hA hN (fun _ => rfl) (by decide) rfl (Nat.le_of_ble_eq_true rfl) (Nat.le_of_ble_eq_true rfl) (Nat.le_of_ble_eq_true rfl) dX1_init_15 (fun H hP hD hS hN => ?_)
  have hP : va_P Z.1 vwCl [(h0, .inr (3, [.ref sz, .null, .null, .null, .int 0, .int 0, .int 0, .int 0, .int 0])), (sz, .inl (Z.2.1 0, 12, .inl (fun _ => 0))), ((sz + 1), .inl (Z.2.1 0, 6, .inl (fun _ => 0)))] H := hP
  have hD : va_D (va_A [(h0, .inr (3, [.null, .null, .null, .null, .int 0, .int 0, .int 0, .int 0, .int 0]))] sz) [(h0, .inr (3, [.ref sz, .null, .null, .null, .int 0, .int 0, .int 0, .int 0, .int 0])), (sz, .inl (Z.2.1 0, 12, .inl (fun _ => 0))), ((sz + 1), .inl (Z.2.1 0, 6, .inl (fun _ => 0)))] := hD
  have hN : H.size = sz + 2 := hN
  refine cn_putF (ci := 3) (v := .ref (sz + 1)) (ty := .array .int) (C := RX1) (T := TX1) (N := 9) hx hb hts hin_RX1 tyX1 tyX1_ok nmX1 hown hK hP hD hS hN 0 rfl rfl 1 (by decide) (hts _ q175) (fun _ h9 => h9) rfl hin rfl (by decide +kernel) rfl rfl (Nat.le_of_ble_eq_true rfl) dX1_init_17 (fun H locs hP hD hS hN => ?_)
  have hP : va_P Z.1 vwCl [(h0, .inr (3, [.ref sz, .ref (sz + 1), .null, .null, .int 0, .int 0, .int 0, .int 0, .int 0])), (sz, .inl (Z.2.1 0, 12, .inl (fun _ => 0))), ((sz + 1), .inl (Z.2.1 0, 6, .inl (fun _ => 0)))] H := hP
  have hD : va_D (va_A [(h0, .inr (3, [.null, .null, .null, .null, .int 0, .int 0, .int 0, .int 0, .int 0]))] sz) [(h0, .inr (3, [.ref sz, .ref (sz + 1), .null, .null, .int 0, .int 0, .int 0, .int 0, .int 0])), (sz, .inl (Z.2.1 0, 12, .inl (fun _ => 0))), ((sz + 1), .inl (Z.2.1 0, 6, .inl (fun _ => 0)))] := hD
  refine lv_aload_n hx hb dX1_init_20 rfl (lv_at hl 0 rfl) ?_
  refine lv_bipush (v := (24 : Int32)) hx hb dX1_init_21 (by decide) ?_
  refine cn_newa (t := 0) (atype := .int) (ty := .int) (a0 := (24, .inl (fun _ => 0))) (N' := 24) hx hb (hts _ q132) rfl rfl hK hP hD hS hA hN (fun _ => rfl) (by decide) rfl (Nat.le_of_ble_eq_true rfl) (Nat.le_of_ble_eq_true rfl) (Nat.le_of_ble_eq_true rfl) dX1_init_23 (fun H hP hD hS hN => ?_)
  have hP : va_P Z.1 vwCl [(h0, .inr (3, [.ref sz, .ref (sz + 1), .null, .null, .int 0, .int 0, .int 0, .int 0, .int 0])), (sz, .inl (Z.2.1 0, 12, .inl (fun _ => 0))), ((sz + 1), .inl (Z.2.1 0, 6, .inl (fun _ => 0))), ((sz + 2), .inl (Z.2.1 0, 24, .inl (fun _ => 0)))] H := hP
  have hD : va_D (va_A [(h0, .inr (3, [.null, .null, .null, .null, .int 0, .int 0, .int 0, .int 0, .int 0]))] sz) [(h0, .inr (3, [.ref sz, .ref (sz + 1), .null, .null, .int 0, .int 0, .int 0, .int 0, .int 0])), (sz, .inl (Z.2.1 0, 12, .inl (fun _ => 0))), ((sz + 1), .inl (Z.2.1 0, 6, .inl (fun _ => 0))), ((sz + 2), .inl (Z.2.1 0, 24, .inl (fun _ => 0)))] := hD
  have hN : H.size = sz + 3 := hN
  refine cn_putF (ci := 3) (v := .ref (sz + 2)) (ty := .array .int) (C := RX1) (T := TX1) (N := 9) hx hb hts hin_RX1 tyX1 tyX1_ok nmX1 hown hK hP hD hS hN 0 rfl rfl 2 (by decide) (hts _ q177) (fun _ h9 => h9) rfl hin rfl (by decide +kernel) rfl rfl (Nat.le_of_ble_eq_true rfl) dX1_init_25 (fun H locs hP hD hS hN => ?_)
  have hP : va_P Z.1 vwCl [(h0, .inr (3, [.ref sz, .ref (sz + 1), .ref (sz + 2), .null, .int 0, .int 0, .int 0, .int 0, .int 0])), (sz, .inl (Z.2.1 0, 12, .inl (fun _ => 0))), ((sz + 1), .inl (Z.2.1 0, 6, .inl (fun _ => 0))), ((sz + 2), .inl (Z.2.1 0, 24, .inl (fun _ => 0)))] H := hP
  have hD : va_D (va_A [(h0, .inr (3, [.null, .null, .null, .null, .int 0, .int 0, .int 0, .int 0, .int 0]))] sz) [(h0, .inr (3, [.ref sz, .ref (sz + 1), .ref (sz + 2), .null, .int 0, .int 0, .int 0, .int 0, .int 0])), (sz, .inl (Z.2.1 0, 12, .inl (fun _ => 0))), ((sz + 1), .inl (Z.2.1 0, 6, .inl (fun _ => 0))), ((sz + 2), .inl (Z.2.1 0, 24, .inl (fun _ => 0)))] := hD
  refine lv_aload_n hx hb dX1_init_28 rfl (lv_at hl 0 rfl) ?_
  refine lv_bipush (v := (24 : Int32)) hx hb dX1_init_29 (by decide) ?_
  refine cn_newa (t := 0) (atype := .int) (ty := .int) (a0 := (24, .inl (fun _ => 0))) (N' := 24) hx hb (hts _ q132) rfl rfl hK hP hD hS hA hN (fun _ => rfl) (by decide) rfl (Nat.le_of_ble_eq_true rfl) (Nat.le_of_ble_eq_true rfl) (Nat.le_of_ble_eq_true rfl) dX1_init_31 (fun H hP hD hS hN => ?_)
  have hP : va_P Z.1 vwCl [(h0, .inr (3, [.ref sz, .ref (sz + 1), .ref (sz + 2), .null, .int 0, .int 0, .int 0, .int 0, .int 0])), (sz, .inl (Z.2.1 0, 12, .inl (fun _ => 0))), ((sz + 1), .inl (Z.2.1 0, 6, .inl (fun _ => 0))), ((sz + 2), .inl (Z.2.1 0, 24, .inl (fun _ => 0))), ((sz + 3), .inl (Z.2.1 0, 24, .inl (fun _ => 0)))] H := hP
  have hD : va_D (va_A [(h0, .inr (3, [.null, .null, .null, .null, .int 0, .int 0, .int 0, .int 0, .int 0]))] sz) [(h0, .inr (3, [.ref sz, .ref (sz + 1), .ref (sz + 2), .null, .int 0, .int 0, .int 0, .int 0, .int 0])), (sz, .inl (Z.2.1 0, 12, .inl (fun _ => 0))), ((sz + 1), .inl (Z.2.1 0, 6, .inl (fun _ => 0))), ((sz + 2), .inl (Z.2.1 0, 24, .inl (fun _ => 0))), ((sz + 3), .inl (Z.2.1 0, 24, .inl (fun _ => 0)))] := hD
  have hN : H.size = sz + 4 := hN
  refine cn_putF (ci := 3) (v := .ref (sz + 3)) (ty := .array .int) (C := RX1) (T := TX1) (N := 9) hx hb hts hin_RX1 tyX1 tyX1_ok nmX1 hown hK hP hD hS hN 0 rfl rfl 3 (by decide) (hts _ q178) (fun _ h9 => h9) rfl hin rfl (by decide +kernel) rfl rfl (Nat.le_of_ble_eq_true rfl) dX1_init_33 (fun H locs hP hD hS hN => ?_)
  have hP : va_P Z.1 vwCl [(h0, .inr (3, [.ref sz, .ref (sz + 1), .ref (sz + 2), .ref (sz + 3), .int 0, .int 0, .int 0, .int 0, .int 0])), (sz, .inl (Z.2.1 0, 12, .inl (fun _ => 0))), ((sz + 1), .inl (Z.2.1 0, 6, .inl (fun _ => 0))), ((sz + 2), .inl (Z.2.1 0, 24, .inl (fun _ => 0))), ((sz + 3), .inl (Z.2.1 0, 24, .inl (fun _ => 0)))] H := hP
  have hD : va_D (va_A [(h0, .inr (3, [.null, .null, .null, .null, .int 0, .int 0, .int 0, .int 0, .int 0]))] sz) [(h0, .inr (3, [.ref sz, .ref (sz + 1), .ref (sz + 2), .ref (sz + 3), .int 0, .int 0, .int 0, .int 0, .int 0])), (sz, .inl (Z.2.1 0, 12, .inl (fun _ => 0))), ((sz + 1), .inl (Z.2.1 0, 6, .inl (fun _ => 0))), ((sz + 2), .inl (Z.2.1 0, 24, .inl (fun _ => 0))), ((sz + 3), .inl (Z.2.1 0, 24, .inl (fun _ => 0)))] := hD
  refine lv_aload_n hx hb dX1_init_36 rfl (lv_at hl 0 rfl) ?_
  refine lv_iconst (v := (0 : Int32)) hx hb dX1_init_37 (by decide) ?_
  refine cn_put (ci := 3) (v := .int 0) (ty := .int) (C := RX1) (T := TX1) (N := 9) hx hb hts hin_RX1 tyX1 tyX1_ok nmX1 hown hK hP hD hS hN 0 rfl rfl 4 (by decide) (hts _ q179) (fun _ h9 => h9) rfl (by decide +kernel) rfl rfl (Nat.le_of_ble_eq_true rfl) dX1_init_38 (fun H locs hP hD hS hN => ?_)
  have hP : va_P Z.1 vwCl [(h0, .inr (3, [.ref sz, .ref (sz + 1), .ref (sz + 2), .ref (sz + 3), .int 0, .int 0, .int 0, .int 0, .int 0])), (sz, .inl (Z.2.1 0, 12, .inl (fun _ => 0))), ((sz + 1), .inl (Z.2.1 0, 6, .inl (fun _ => 0))), ((sz + 2), .inl (Z.2.1 0, 24, .inl (fun _ => 0))), ((sz + 3), .inl (Z.2.1 0, 24, .inl (fun _ => 0)))] H := hP
  have hD : va_D (va_A [(h0, .inr (3, [.null, .null, .null, .null, .int 0, .int 0, .int 0, .int 0, .int 0]))] sz) [(h0, .inr (3, [.ref sz, .ref (sz + 1), .ref (sz + 2), .ref (sz + 3), .int 0, .int 0, .int 0, .int 0, .int 0])), (sz, .inl (Z.2.1 0, 12, .inl (fun _ => 0))), ((sz + 1), .inl (Z.2.1 0, 6, .inl (fun _ => 0))), ((sz + 2), .inl (Z.2.1 0, 24, .inl (fun _ => 0))), ((sz + 3), .inl (Z.2.1 0, 24, .inl (fun _ => 0)))] := hD
  refine lv_aload_n hx hb dX1_init_41 rfl (lv_at hl 0 rfl) ?_
  refine lv_iconst (v := (0 : Int32)) hx hb dX1_init_42 (by decide) ?_
  refine cn_put (ci := 3) (v := .int 0) (ty := .int) (C := RX1) (T := TX1) (N := 9) hx hb hts hin_RX1 tyX1 tyX1_ok nmX1 hown hK hP hD hS hN 0 rfl rfl 5 (by decide) (hts _ q181) (fun _ h9 => h9) rfl (by decide +kernel) rfl rfl (Nat.le_of_ble_eq_true rfl) dX1_init_43 (fun H locs hP hD hS hN => ?_)
  have hP : va_P Z.1 vwCl [(h0, .inr (3, [.ref sz, .ref (sz + 1), .ref (sz + 2), .ref (sz + 3), .int 0, .int 0, .int 0, .int 0, .int 0])), (sz, .inl (Z.2.1 0, 12, .inl (fun _ => 0))), ((sz + 1), .inl (Z.2.1 0, 6, .inl (fun _ => 0))), ((sz + 2), .inl (Z.2.1 0, 24, .inl (fun _ => 0))), ((sz + 3), .inl (Z.2.1 0, 24, .inl (fun _ => 0)))] H := hP
  have hD : va_D (va_A [(h0, .inr (3, [.null, .null, .null, .null, .int 0, .int 0, .int 0, .int 0, .int 0]))] sz) [(h0, .inr (3, [.ref sz, .ref (sz + 1), .ref (sz + 2), .ref (sz + 3), .int 0, .int 0, .int 0, .int 0, .int 0])), (sz, .inl (Z.2.1 0, 12, .inl (fun _ => 0))), ((sz + 1), .inl (Z.2.1 0, 6, .inl (fun _ => 0))), ((sz + 2), .inl (Z.2.1 0, 24, .inl (fun _ => 0))), ((sz + 3), .inl (Z.2.1 0, 24, .inl (fun _ => 0)))] := hD
  refine lv_aload_n hx hb dX1_init_46 rfl (lv_at hl 0 rfl) ?_
  refine lv_iconst (v := (0 : Int32)) hx hb dX1_init_47 (by decide) ?_
  refine cn_put (ci := 3) (v := .int 0) (ty := .int) (C := RX1) (T := TX1) (N := 9) hx hb hts hin_RX1 tyX1 tyX1_ok nmX1 hown hK hP hD hS hN 0 rfl rfl 6 (by decide) (hts _ q183) (fun _ h9 => h9) rfl (by decide +kernel) rfl rfl (Nat.le_of_ble_eq_true rfl) dX1_init_48 (fun H locs hP hD hS hN => ?_)
  have hP : va_P Z.1 vwCl [(h0, .inr (3, [.ref sz, .ref (sz + 1), .ref (sz + 2), .ref (sz + 3), .int 0, .int 0, .int 0, .int 0, .int 0])), (sz, .inl (Z.2.1 0, 12, .inl (fun _ => 0))), ((sz + 1), .inl (Z.2.1 0, 6, .inl (fun _ => 0))), ((sz + 2), .inl (Z.2.1 0, 24, .inl (fun _ => 0))), ((sz + 3), .inl (Z.2.1 0, 24, .inl (fun _ => 0)))] H := hP
  have hD : va_D (va_A [(h0, .inr (3, [.null, .null, .null, .null, .int 0, .int 0, .int 0, .int 0, .int 0]))] sz) [(h0, .inr (3, [.ref sz, .ref (sz + 1), .ref (sz + 2), .ref (sz + 3), .int 0, .int 0, .int 0, .int 0, .int 0])), (sz, .inl (Z.2.1 0, 12, .inl (fun _ => 0))), ((sz + 1), .inl (Z.2.1 0, 6, .inl (fun _ => 0))), ((sz + 2), .inl (Z.2.1 0, 24, .inl (fun _ => 0))), ((sz + 3), .inl (Z.2.1 0, 24, .inl (fun _ => 0)))] := hD
  refine lv_aload_n hx hb dX1_init_51 rfl (lv_at hl 0 rfl) ?_
  refine lv_iconst (v := (0 : Int32)) hx hb dX1_init_52 (by decide) ?_
  refine cn_put (ci := 3) (v := .int 0) (ty := .int) (C := RX1) (T := TX1) (N := 9) hx hb hts hin_RX1 tyX1 tyX1_ok nmX1 hown hK hP hD hS hN 0 rfl rfl 7 (by decide) (hts _ q185) (fun _ h9 => h9) rfl (by decide +kernel) rfl rfl (Nat.le_of_ble_eq_true rfl) dX1_init_53 (fun H locs hP hD hS hN => ?_)
  have hP : va_P Z.1 vwCl [(h0, .inr (3, [.ref sz, .ref (sz + 1), .ref (sz + 2), .ref (sz + 3), .int 0, .int 0, .int 0, .int 0, .int 0])), (sz, .inl (Z.2.1 0, 12, .inl (fun _ => 0))), ((sz + 1), .inl (Z.2.1 0, 6, .inl (fun _ => 0))), ((sz + 2), .inl (Z.2.1 0, 24, .inl (fun _ => 0))), ((sz + 3), .inl (Z.2.1 0, 24, .inl (fun _ => 0)))] H := hP
  have hD : va_D (va_A [(h0, .inr (3, [.null, .null, .null, .null, .int 0, .int 0, .int 0, .int 0, .int 0]))] sz) [(h0, .inr (3, [.ref sz, .ref (sz + 1), .ref (sz + 2), .ref (sz + 3), .int 0, .int 0, .int 0, .int 0, .int 0])), (sz, .inl (Z.2.1 0, 12, .inl (fun _ => 0))), ((sz + 1), .inl (Z.2.1 0, 6, .inl (fun _ => 0))), ((sz + 2), .inl (Z.2.1 0, 24, .inl (fun _ => 0))), ((sz + 3), .inl (Z.2.1 0, 24, .inl (fun _ => 0)))] := hD
  refine lv_aload_n hx hb dX1_init_56 rfl (lv_at hl 0 rfl) ?_
  refine lv_iconst (v := (0 : Int32)) hx hb dX1_init_57 (by decide) ?_
  refine cn_put (ci := 3) (v := .int 0) (ty := .int) (C := RX1) (T := TX1) (N := 9) hx hb hts hin_RX1 tyX1 tyX1_ok nmX1 hown hK hP hD hS hN 0 rfl rfl 8 (by decide) (hts _ q186) (fun _ h9 => h9) rfl (by decide +kernel) rfl rfl (Nat.le_of_ble_eq_true rfl) dX1_init_58 (fun H locs hP hD hS hN => ?_)
  have hP : va_P Z.1 vwCl [(h0, .inr (3, [.ref sz, .ref (sz + 1), .ref (sz + 2), .ref (sz + 3), .int 0, .int 0, .int 0, .int 0, .int 0])), (sz, .inl (Z.2.1 0, 12, .inl (fun _ => 0))), ((sz + 1), .inl (Z.2.1 0, 6, .inl (fun _ => 0))), ((sz + 2), .inl (Z.2.1 0, 24, .inl (fun _ => 0))), ((sz + 3), .inl (Z.2.1 0, 24, .inl (fun _ => 0)))] H := hP
  have hD : va_D (va_A [(h0, .inr (3, [.null, .null, .null, .null, .int 0, .int 0, .int 0, .int 0, .int 0]))] sz) [(h0, .inr (3, [.ref sz, .ref (sz + 1), .ref (sz + 2), .ref (sz + 3), .int 0, .int 0, .int 0, .int 0, .int 0])), (sz, .inl (Z.2.1 0, 12, .inl (fun _ => 0))), ((sz + 1), .inl (Z.2.1 0, 6, .inl (fun _ => 0))), ((sz + 2), .inl (Z.2.1 0, 24, .inl (fun _ => 0))), ((sz + 3), .inl (Z.2.1 0, 24, .inl (fun _ => 0)))] := hD
  exact we_I (e9 := .inr (3, [.null, .null, .null, .null, .int 0, .int 0, .int 0, .int 0, .int 0])) (b := h0) (sz := sz) hx hb hr hlocks hP hN hS dX1_init_61 (by decide) (by decide)
theorem ci_RX6_50 {R : Room} {s : State} {args : Array Value} (hts : ∀ w ∈ lw_all, w.before args s = true) (h1 : rm_X1_init.frames + 1 ≤ R.frames) (h2 : 8 + (1 + 11) + rm_X1_init.locals ≤ R.locals) : CallB R s args RX6 50 yX1_init cX1_init 1 none ws_X1_init rm_X1_init 4 66 0 ∧ yX1_init.name = "<init>" ∧ (Cond.instanceMethod yX1_init).before args s = true := cwI 0 hts (lw_gc q172) rfl rfl rfl (hts _ q80) (hts _ q170) (hts _ q171) rfl (by decide +kernel) ⟨h1, h2⟩