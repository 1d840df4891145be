variable {p : Program} {l : Launch} {e : Env} {s : State} {m : MethodId} {below : List Frame} {meth : Method} {c : Code} {Q : State → Prop} {Z : ZT} {b L : Nat} {xs : Nat → Int32}
set_option maxHeartbeats 4000000 in
set_option maxRecDepth 100000 in
theorem law_C0 (hfl : l.stackTraces = false) (hZ : wD Z) (hx : p.tables.exec = Jvm.exec) (hb : c.code = code) (hml : c.maxLocals = 9) (hown : s.vm.findClass RL = some m.cls) (hts : ∀ w ∈ lw_all, w.before #[Value.ref b] s = true) (hE : EV (wA Z s.heap.size) s) (hK : wK Z s) (hX : va_X b L xs s s.heap) (hbl : b < s.heap.size) (hbA : ¬ wA Z s.heap.size b) {rc : Int32 → SS → SS → SS → Option Unit} {cells slots : Nat} (hcc : cells + 3 ≤ 603072) (hss : slots + 18 ≤ 7223402) (hrc : ∀ (ix : Int32) (X M O : SS) (H : Heap) (locs : List Loc) (ls : Array Slot), rc ix X M O = some () → wP Z (X, M, O) H → va_S (wA Z s.heap.size) s.heap H locs → lv_has ls 9 [(5, .int ix), (4, .ref (Z.2.2 57 0)), (3, .ref (Z.2.2 56 0)), (2, .ref (Z.2.2 26 0)), (1, .ref (Z.2.2 0 0)), (0, .ref b)] → W p l e room_1 s m #[Value.ref b] below meth c H locs (cells + 3) (slots + 18) Q (F0 m 28 ls [])) (ix : Int32) (X M O : SS) (H : Heap) (locs : List Loc) (ls : Array Slot) (hk : f_law_C0 xs L ix X M O rc = some ()) (hP : wP Z (X, M, O) H) (hS : va_S (wA Z s.heap.size) s.heap H locs) (hl : lv_has ls 9 [(5, .int ix), (4, .ref (Z.2.2 57 0)), (3, .ref (Z.2.2 56 0)), (2, .ref (Z.2.2 26 0)), (1, .ref (Z.2.2 0 0)), (0, .ref b)]) : W p l e room_1 s m #[Value.ref b] below meth c H locs cells slots Q (F0 m 240 ls []) := by
  unfold f_law_C0 at hk
  refine lv_aload_n hx hb dL_law_240 rfl (lv_at hl 4 rfl) ?_
  refine lv_aload_n hx hb dL_law_241 rfl (lv_at hl 5 rfl) ?_
  refine lv_iload hx hb dL_law_242 (lv_at hl 0 rfl) ?_
  refine lv_iconst (v := (1 : Int32)) hx hb dL_law_244 (by decide) ?_
  refine lv_iadd hx hb dL_law_245 ?_
  obtain ⟨hg1, hk⟩ := gd_s hk
  refine va_sld hx hb hX hbl hbA hS hg1 dL_law_246 ?_
  refine lv_i2c (v := (((xs ((ix + (1 : Int32))).toNatClampNeg)).toUInt32 % 65536).toInt32) hx hb dL_law_247 rfl ?_
  refine lv_aload_n hx hb dL_law_248 rfl (lv_at hl 5 rfl) ?_
  refine lv_iload hx hb dL_law_249 (lv_at hl 0 rfl) ?_
  refine lv_iconst (v := (2 : Int32)) hx hb dL_law_251 (by decide) ?_
  refine lv_iadd hx hb dL_law_252 ?_
  obtain ⟨hg2, hk⟩ := gd_s hk
  refine va_sld hx hb hX hbl hbA hS hg2 dL_law_253 ?_
  refine lv_aload_n hx hb dL_law_254 rfl (lv_at hl 2 rfl) ?_
  obtain ⟨X4, O5, v3, hf6, hk⟩ := b2_s hk
  refine wc_iSX0 (rest := []) (As := [.ref (Z.2.2 0 0), .int (((xs ((ix + (1 : Int32))).toNatClampNeg)).toUInt32 % 65536).toInt32, .int (xs ((ix + (2 : Int32))).toNatClampNeg), .ref (Z.2.2 56 0)]) ⟨hx, hb, hml, hown, hts⟩ (fun sz => k_L_step l hfl Z hZ X M O (((xs ((ix + (1 : Int32))).toNatClampNeg)).toUInt32 % 65536).toInt32 (xs ((ix + (2 : Int32))).toNatClampNeg) X4 O5 v3 hf6 sz) (cw_RL_157 (args := _) (s := s) hts (Nat.le_of_ble_eq_true rfl) (Nat.le_of_ble_eq_true rfl)) hE hP hK hS  rfl hl.1 rfl (Nat.le_of_ble_eq_true rfl) dL_law_255 ⟨by show _ ≤ 603072; omega, by show _ ≤ 7223402; omega⟩ (fun H locs hP hS => ?_)
  refine lv_istore (lv' := [(6, .int v3), (5, .int ix), (4, .ref (Z.2.2 57 0)), (3, .ref (Z.2.2 56 0)), (2, .ref (Z.2.2 26 0)), (1, .ref (Z.2.2 0 0)), (0, .ref b)]) hx hb dL_law_258 hl (by decide) rfl (fun ls hl => ?_)
  refine lv_aload_n hx hb dL_law_260 rfl (lv_at hl 4 rfl) ?_
  refine lv_aload_n hx hb dL_law_261 rfl (lv_at hl 6 rfl) ?_
  refine lv_iload hx hb dL_law_262 (lv_at hl 1 rfl) ?_
  refine lv_iconst (v := (1 : Int32)) hx hb dL_law_264 (by decide) ?_
  refine lv_iadd hx hb dL_law_265 ?_
  obtain ⟨hg7, hk⟩ := gd_s hk
  refine va_sld hx hb hX hbl hbA hS hg7 dL_law_266 ?_
  refine lv_i2c (v := (((xs ((ix + (1 : Int32))).toNatClampNeg)).toUInt32 % 65536).toInt32) hx hb dL_law_267 rfl ?_
  refine lv_aload_n hx hb dL_law_268 rfl (lv_at hl 6 rfl) ?_
  refine lv_iload hx hb dL_law_269 (lv_at hl 1 rfl) ?_
  refine lv_iconst (v := (2 : Int32)) hx hb dL_law_271 (by decide) ?_
  refine lv_iadd hx hb dL_law_272 ?_
  obtain ⟨hg8, hk⟩ := gd_s hk
  refine va_sld hx hb hX hbl hbA hS hg8 dL_law_273 ?_
  obtain ⟨M10, v9, hf11, hk⟩ := b1_s hk
  refine wc_iV0 (rest := []) (As := [.int (((xs ((ix + (1 : Int32))).toNatClampNeg)).toUInt32 % 65536).toInt32, .int (xs ((ix + (2 : Int32))).toNatClampNeg)]) ⟨hx, hb, hml, hown, hts⟩ (fun sz => k_X7_step l hfl Z hZ X4 M O5 (((xs ((ix + (1 : Int32))).toNatClampNeg)).toUInt32 % 65536).toInt32 (xs ((ix + (2 : Int32))).toNatClampNeg) M10 v9 hf11 sz) (cw_RL_162 (args := _) (s := s) hts (Nat.le_of_ble_eq_true rfl) (Nat.le_of_ble_eq_true rfl)) hE hP hK hS (rv_26 hK hP (by decide)) rfl hl.1 rfl (Nat.le_of_ble_eq_true rfl) dL_law_274 ⟨by show _ ≤ 603072; omega, by show _ ≤ 7223402; omega⟩ (fun H locs hP hS => ?_)
  refine lv_istore (lv' := [(7, .int v9), (6, .int v3), (5, .int ix), (4, .ref (Z.2.2 57 0)), (3, .ref (Z.2.2 56 0)), (2, .ref (Z.2.2 26 0)), (1, .ref (Z.2.2 0 0)), (0, .ref b)]) hx hb dL_law_277 hl (by decide) rfl (fun ls hl => ?_)
  refine lv_goto (tgt := 1621) hx hb dL_law_279 (by decide) ?_
  refine lv_iinc (v := (ix + (4 : Int32))) (lv' := [(5, .int (ix + (4 : Int32))), (7, .int v9), (6, .int v3), (4, .ref (Z.2.2 57 0)), (3, .ref (Z.2.2 56 0)), (2, .ref (Z.2.2 26 0)), (1, .ref (Z.2.2 0 0)), (0, .ref b)]) hx hb dL_law_1621 hl (k := 2) rfl rfl (by decide) rfl (fun ls hl => ?_)
  refine lv_goto (tgt := 28) hx hb dL_law_1624 (by decide) ?_
  refine W.widen (k := cells + 3) (n := slots + 18) (by omega) (by omega) ?_
  exact hrc _ _ _ _ _ _ _ hk hP hS (lv_sub hl [0, 3, 4, 5, 6, 7] rfl)
set_option maxHeartbeats 4000000 in
set_option maxRecDepth 100000 in
theorem law_C1 (hfl : l.stackTraces = false) (hZ : wD Z) (hx : p.tables.exec = Jvm.exec) (hb : c.code = code) (hml : c.maxLocals = 9) (hown : s.vm.findClass RL = some m.cls) (hts : ∀ w ∈ lw_all, w.before #[Value.ref b] s = true) (hE : EV (wA Z s.heap.size) s) (hK : wK Z s) (hX : va_X b L xs s s.heap) (hbl : b < s.heap.size) (hbA : ¬ wA Z s.heap.size b) {rc : Int32 → SS → SS → SS → Option Unit} {cells slots : Nat} (hcc : cells + 3 ≤ 603072) (hss : slots + 18 ≤ 7223402) (hrc : ∀ (ix : Int32) (X M O : SS) (H : Heap) (locs : List Loc) (ls : Array Slot), rc ix X M O = some () → wP Z (X, M, O) H → va_S (wA Z s.heap.size) s.heap H locs → lv_has ls 9 [(5, .int ix), (4, .ref (Z.2.2 57 0)), (3, .ref (Z.2.2 56 0)), (2, .ref (Z.2.2 26 0)), (1, .ref (Z.2.2 0 0)), (0, .ref b)] → W p l e room_1 s m #[Value.ref b] below meth c H locs (cells + 3) (slots + 18) Q (F0 m 28 ls [])) (ix : Int32) (X M O : SS) (H : Heap) (locs : List Loc) (ls : Array Slot) (hk : f_law_C1 xs L ix X M O rc = some ()) (hP : wP Z (X, M, O) H) (hS : va_S (wA Z s.heap.size) s.heap H locs) (hl : lv_has ls 9 [(5, .int ix), (4, .ref (Z.2.2 57 0)), (3, .ref (Z.2.2 56 0)), (2, .ref (Z.2.2 26 0)), (1, .ref (Z.2.2 0 0)), (0, .ref b)]) : W p l e room_1 s m #[Value.ref b] below meth c H locs cells slots Q (F0 m 282 ls []) := by
  unfold f_law_C1 at hk
  refine lv_aload_n hx hb dL_law_282 rfl (lv_at hl 4 rfl) ?_
  obtain ⟨X2, v1, hf3, hk⟩ := b1_s hk
  refine wc_iV0 (rest := []) (As := []) ⟨hx, hb, hml, hown, hts⟩ (fun sz => k_X6_wipe l hfl Z hZ X M O X2 v1 hf3 sz) (cw_RL_163 (args := _) (s := s) hts (Nat.le_of_ble_eq_true rfl) (Nat.le_of_ble_eq_true rfl)) hE hP hK hS (rv_0 hK hP (by decide)) rfl hl.1 rfl (Nat.le_of_ble_eq_true rfl) dL_law_283 ⟨by show _ ≤ 603072; omega, by show _ ≤ 7223402; omega⟩ (fun H locs hP hS => ?_)
  refine lv_pop hx hb dL_law_286 rfl ?_
  refine lv_aload_n hx hb dL_law_287 rfl (lv_at hl 3 rfl) ?_
  obtain ⟨M5, v4, hf6, hk⟩ := b1_s hk
  refine wc_iV0 (rest := []) (As := []) ⟨hx, hb, hml, hown, hts⟩ (fun sz => k_X7_wipe l hfl Z hZ X2 M O M5 v4 hf6 sz) (cw_RL_166 (args := _) (s := s) hts (Nat.le_of_ble_eq_true rfl) (Nat.le_of_ble_eq_true rfl)) hE hP hK hS (rv_26 hK hP (by decide)) rfl hl.1 rfl (Nat.le_of_ble_eq_true rfl) dL_law_288 ⟨by show _ ≤ 603072; omega, by show _ ≤ 7223402; omega⟩ (fun H locs hP hS => ?_)
  refine lv_pop hx hb dL_law_291 rfl ?_
  refine lv_goto (tgt := 1621) hx hb dL_law_292 (by decide) ?_
  refine lv_iinc (v := (ix + (4 : Int32))) (lv' := [(5, .int (ix + (4 : Int32))), (4, .ref (Z.2.2 57 0)), (3, .ref (Z.2.2 56 0)), (2, .ref (Z.2.2 26 0)), (1, .ref (Z.2.2 0 0)), (0, .ref b)]) hx hb dL_law_1621 hl (k := 0) rfl rfl (by decide) rfl (fun ls hl => ?_)
  refine lv_goto (tgt := 28) hx hb dL_law_1624 (by decide) ?_
  refine W.widen (k := cells + 3) (n := slots + 18) (by omega) (by omega) ?_
  exact hrc _ _ _ _ _ _ _ hk hP hS (lv_sub hl [0, 1, 2, 3, 4, 5] rfl)
set_option maxHeartbeats 4000000 in
set_option maxRecDepth 100000 in
theorem law_C2 (hfl : l.stackTraces = false) (hZ : wD Z) (hx : p.tables.exec = Jvm.exec) (hb : c.code = code) (hml : c.maxLocals = 9) (hown : s.vm.findClass RL = some m.cls) (hts : ∀ w ∈ lw_all, w.before #[Value.ref b] s = true) (hE : EV (wA Z s.heap.size) s) (hK : wK Z s) (hX : va_X b L xs s s.heap) (hbl : b < s.heap.size) (hbA : ¬ wA Z s.heap.size b) {rc : Int32 → SS → SS → SS → Option Unit} {cells slots : Nat} (hcc : cells + 3 ≤ 603072) (hss : slots + 18 ≤ 7223402) (hrc : ∀ (ix : Int32) (X M O : SS) (H : Heap) (locs : List Loc) (ls : Array Slot), rc ix X M O = some () → wP Z (X, M, O) H → va_S (wA Z s.heap.size) s.heap H locs → lv_has ls 9 [(5, .int ix), (4, .ref (Z.2.2 57 0)), (3, .ref (Z.2.2 56 0)), (2, .ref (Z.2.2 26 0)), (1, .ref (Z.2.2 0 0)), (0, .ref b)] → W p l e room_1 s m #[Value.ref b] below meth c H locs (cells + 3) (slots + 18) Q (F0 m 28 ls [])) (ix : Int32) (X M O : SS) (H : Heap) (locs : List Loc) (ls : Array Slot) (hk : f_law_C2 xs L ix X M O rc = some ()) (hP : wP Z (X, M, O) H) (hS : va_S (wA Z s.heap.size) s.heap H locs) (hl : lv_has ls 9 [(5, .int ix), (4, .ref (Z.2.2 57 0)), (3, .ref (Z.2.2 56 0)), (2, .ref (Z.2.2 26 0)), (1, .ref (Z.2.2 0 0)), (0, .ref b)]) : W p l e room_1 s m #[Value.ref b] below meth c H locs cells slots Q (F0 m 295 ls []) := by
  unfold f_law_C2 at hk
  refine lv_aload_n hx hb dL_law_295 rfl (lv_at hl 4 rfl) ?_
  refine lv_aload_n hx hb dL_law_296 rfl (lv_at hl 5 rfl) ?_
  refine lv_iload hx hb dL_law_297 (lv_at hl 0 rfl) ?_
  refine lv_iconst (v := (1 : Int32)) hx hb dL_law_299 (by decide) ?_
  refine lv_iadd hx hb dL_law_300 ?_
  obtain ⟨hg1, hk⟩ := gd_s hk
  refine va_sld hx hb hX hbl hbA hS hg1 dL_law_301 ?_
  refine lv_aload_n hx hb dL_law_302 rfl (lv_at hl 5 rfl) ?_
  refine lv_iload hx hb dL_law_303 (lv_at hl 0 rfl) ?_
  refine lv_iconst (v := (2 : Int32)) hx hb dL_law_305 (by decide) ?_
  refine lv_iadd hx hb dL_law_306 ?_
  obtain ⟨hg2, hk⟩ := gd_s hk
  refine va_sld hx hb hX hbl hbA hS hg2 dL_law_307 ?_
  refine lv_if_eq (tgt := 315) hx hb dL_law_308 (by decide) (fun cz3 => ?_) (fun cz3 => ?_)
  · have hk := it_t cz3 hk
    refine lv_iconst (v := (0 : Int32)) hx hb dL_law_315 (by decide) ?_
    refine lv_aload_n hx hb dL_law_316 rfl (lv_at hl 2 rfl) ?_
    obtain ⟨X5, O6, v4, hf7, hk⟩ := b2_s hk
    refine wc_iSX0 (rest := []) (As := [.ref (Z.2.2 0 0), .int (xs ((ix + (1 : Int32))).toNatClampNeg), .int (0 : Int32), .ref (Z.2.2 56 0)]) ⟨hx, hb, hml, hown, hts⟩ (fun sz => k_L_number l hfl Z hZ X M O (xs ((ix + (1 : Int32))).toNatClampNeg) (0 : Int32) X5 O6 v4 hf7 sz) (cw_RL_167 (args := _) (s := s) hts (Nat.le_of_ble_eq_true rfl) (Nat.le_of_ble_eq_true rfl)) hE hP hK hS  rfl hl.1 rfl (Nat.le_of_ble_eq_true rfl) dL_law_317 ⟨by show _ ≤ 603072; omega, by show _ ≤ 7223402; omega⟩ (fun H locs hP hS => ?_)
    refine lv_istore (lv' := [(6, .int v4), (5, .int ix), (4, .ref (Z.2.2 57 0)), (3, .ref (Z.2.2 56 0)), (2, .ref (Z.2.2 26 0)), (1, .ref (Z.2.2 0 0)), (0, .ref b)]) hx hb dL_law_320 hl (by decide) rfl (fun ls hl => ?_)
    refine lv_aload_n hx hb dL_law_322 rfl (lv_at hl 4 rfl) ?_
    refine lv_aload_n hx hb dL_law_323 rfl (lv_at hl 6 rfl) ?_
    refine lv_iload hx hb dL_law_324 (lv_at hl 1 rfl) ?_
    refine lv_iconst (v := (1 : Int32)) hx hb dL_law_326 (by decide) ?_
    refine lv_iadd hx hb dL_law_327 ?_
    obtain ⟨hg8, hk⟩ := gd_s hk
    refine va_sld hx hb hX hbl hbA hS hg8 dL_law_328 ?_
    refine lv_aload_n hx hb dL_law_329 rfl (lv_at hl 6 rfl) ?_
    refine lv_iload hx hb dL_law_330 (lv_at hl 1 rfl) ?_
    refine lv_iconst (v := (2 : Int32)) hx hb dL_law_332 (by decide) ?_
    refine lv_iadd hx hb dL_law_333 ?_
    obtain ⟨hg9, hk⟩ := gd_s hk
    refine va_sld hx hb hX hbl hbA hS hg9 dL_law_334 ?_
    refine lv_if_eq (tgt := 342) hx hb dL_law_335 (by decide) (fun cz10 => ?_) (fun cz10 => ?_)
    · have hk := it_t cz10 hk
      refine lv_iconst (v := (0 : Int32)) hx hb dL_law_342 (by decide) ?_
      obtain ⟨M12, v11, hf13, hk⟩ := b1_s hk
      refine wc_iV0 (rest := []) (As := [.int (xs ((ix + (1 : Int32))).toNatClampNeg), .int (0 : Int32)]) ⟨hx, hb, hml, hown, hts⟩ (fun sz => k_X7_number l hfl Z hZ X5 M O6 (xs ((ix + (1 : Int32))).toNatClampNeg) (0 : Int32) M12 v11 hf13 sz) (cw_RL_170 (args := _) (s := s) hts (Nat.le_of_ble_eq_true rfl) (Nat.le_of_ble_eq_true rfl)) hE hP hK hS (rv_26 hK hP (by decide)) rfl hl.1 rfl (Nat.le_of_ble_eq_true rfl) dL_law_343 ⟨by show _ ≤ 603072; omega, by show _ ≤ 7223402; omega⟩ (fun H locs hP hS => ?_)
      refine lv_istore (lv' := [(7, .int v11), (6, .int v4), (5, .int ix), (4, .ref (Z.2.2 57 0)), (3, .ref (Z.2.2 56 0)), (2, .ref (Z.2.2 26 0)), (1, .ref (Z.2.2 0 0)), (0, .ref b)]) hx hb dL_law_346 hl (by decide) rfl (fun ls hl => ?_)
      refine lv_goto (tgt := 1621) hx hb dL_law_348 (by decide) ?_
      refine lv_iinc (v := (ix + (4 : Int32))) (lv' := [(5, .int (ix + (4 : Int32))), (7, .int v11), (6, .int v4), (4, .ref (Z.2.2 57 0)), (3, .ref (Z.2.2 56 0)), (2, .ref (Z.2.2 26 0)), (1, .ref (Z.2.2 0 0)), (0, .ref b)]) hx hb dL_law_1621 hl (k := 2) rfl rfl (by decide) rfl (fun ls hl => ?_)
      refine lv_goto (tgt := 28) hx hb dL_law_1624 (by decide) ?_
      refine W.widen (k := cells + 3) (n := slots + 18) (by omega) (by omega) ?_
      exact hrc _ _ _ _ _ _ _ hk hP hS (lv_sub hl [0, 3, 4, 5, 6, 7] rfl)
    · have hk := it_f cz10 hk
      refine lv_iconst (v := (1 : Int32)) hx hb dL_law_338 (by decide) ?_
      refine lv_goto (tgt := 343) hx hb dL_law_339 (by decide) ?_
      obtain ⟨M15, v14, hf16, hk⟩ := b1_s hk
      refine wc_iV0 (rest := []) (As := [.int (xs ((ix + (1 : Int32))).toNatClampNeg), .int (1 : Int32)]) ⟨hx, hb, hml, hown, hts⟩ (fun sz => k_X7_number l hfl Z hZ X5 M O6 (xs ((ix + (1 : Int32))).toNatClampNeg) (1 : Int32) M15 v14 hf16 sz) (cw_RL_170 (args := _) (s := s) hts (Nat.le_of_ble_eq_true rfl) (Nat.le_of_ble_eq_true rfl)) hE hP hK hS (rv_26 hK hP (by decide)) rfl hl.1 rfl (Nat.le_of_ble_eq_true rfl) dL_law_343 ⟨by show _ ≤ 603072; omega, by show _ ≤ 7223402; omega⟩ (fun H locs hP hS => ?_)
      refine lv_istore (lv' := [(7, .int v14), (6, .int v4), (5, .int ix), (4, .ref (Z.2.2 57 0)), (3, .ref (Z.2.2 56 0)), (2, .ref (Z.2.2 26 0)), (1, .ref (Z.2.2 0 0)), (0, .ref b)]) hx hb dL_law_346 hl (by decide) rfl (fun ls hl => ?_)
      refine lv_goto (tgt := 1621) hx hb dL_law_348 (by decide) ?_
      refine lv_iinc (v := (ix + (4 : Int32))) (lv' := [(5, .int (ix + (4 : Int32))), (7, .int v14), (6, .int v4), (4, .ref (Z.2.2 57 0)), (3, .ref (Z.2.2 56 0)), (2, .ref (Z.2.2 26 0)), (1, .ref (Z.2.2 0 0)), (0, .ref b)]) hx hb dL_law_1621 hl (k := 2) rfl rfl (by decide) rfl (fun ls hl => ?_)
      refine lv_goto (tgt := 28) hx hb dL_law_1624 (by decide) ?_
      refine W.widen (k := cells + 3) (n := slots + 18) (by omega) (by omega) ?_
      exact hrc _ _ _ _ _ _ _ hk hP hS (lv_sub hl [0, 3, 4, 5, 6, 7] rfl)
  · have hk := it_f cz3 hk
    refine lv_iconst (v := (1 : Int32)) hx hb dL_law_311 (by decide) ?_
    refine lv_goto (tgt := 316) hx hb dL_law_312 (by decide) ?_
    refine lv_aload_n hx hb dL_law_316 rfl (lv_at hl 2 rfl) ?_
    obtain ⟨X18, O19, v17, hf20, hk⟩ := b2_s hk
    refine wc_iSX0 (rest := []) (As := [.ref (Z.2.2 0 0), .int (xs ((ix + (1 : Int32))).toNatClampNeg), .int (1 : Int32), .ref (Z.2.2 56 0)]) ⟨hx, hb, hml, hown, hts⟩ (fun sz => k_L_number l hfl Z hZ X M O (xs ((ix + (1 : Int32))).toNatClampNeg) (1 : Int32) X18 O19 v17 hf20 sz) (cw_RL_167 (args := _) (s := s) hts (Nat.le_of_ble_eq_true rfl) (Nat.le_of_ble_eq_true rfl)) hE hP hK hS  rfl hl.1 rfl (Nat.le_of_ble_eq_true rfl) dL_law_317 ⟨by show _ ≤ 603072; omega, by show _ ≤ 7223402; omega⟩ (fun H locs hP hS => ?_)
    refine lv_istore (lv' := [(6, .int v17), (5, .int ix), (4, .ref (Z.2.2 57 0)), (3, .ref (Z.2.2 56 0)), (2, .ref (Z.2.2 26 0)), (1, .ref (Z.2.2 0 0)), (0, .ref b)]) hx hb dL_law_320 hl (by decide) rfl (fun ls hl => ?_)
    refine lv_aload_n hx hb dL_law_322 rfl (lv_at hl 4 rfl) ?_
    refine lv_aload_n hx hb dL_law_323 rfl (lv_at hl 6 rfl) ?_
    refine lv_iload hx hb dL_law_324 (lv_at hl 1 rfl) ?_
    refine lv_iconst (v := (1 : Int32)) hx hb dL_law_326 (by decide) ?_
    refine lv_iadd hx hb dL_law_327 ?_
    obtain ⟨hg21, hk⟩ := gd_s hk
    refine va_sld hx hb hX hbl hbA hS hg21 dL_law_328 ?_
    refine lv_aload_n hx hb dL_law_329 rfl (lv_at hl 6 rfl) ?_
    refine lv_iload hx hb dL_law_330 (lv_at hl 1 rfl) ?_
    refine lv_iconst (v := (2 : Int32)) hx hb dL_law_332 (by decide) ?_
    refine lv_iadd hx hb dL_law_333 ?_
    obtain ⟨hg22, hk⟩ := gd_s hk
    refine va_sld hx hb hX hbl hbA hS hg22 dL_law_334 ?_
    refine lv_if_eq (tgt := 342) hx hb dL_law_335 (by decide) (fun cz23 => ?_) (fun cz23 => ?_)
    · have hk := it_t cz23 hk
      refine lv_iconst (v := (0 : Int32)) hx hb dL_law_342 (by decide) ?_
      obtain ⟨M25, v24, hf26, hk⟩ := b1_s hk
      refine wc_iV0 (rest := []) (As := [.int (xs ((ix + (1 : Int32))).toNatClampNeg), .int (0 : Int32)]) ⟨hx, hb, hml, hown, hts⟩ (fun sz => k_X7_number l hfl Z hZ X18 M O19 (xs ((ix + (1 : Int32))).toNatClampNeg) (0 : Int32) M25 v24 hf26 sz) (cw_RL_170 (args := _) (s := s) hts (Nat.le_of_ble_eq_true rfl) (Nat.le_of_ble_eq_true rfl)) hE hP hK hS (rv_26 hK hP (by decide)) rfl hl.1 rfl (Nat.le_of_ble_eq_true rfl) dL_law_343 ⟨by show _ ≤ 603072; omega, by show _ ≤ 7223402; omega⟩ (fun H locs hP hS => ?_)
      refine lv_istore (lv' := [(7, .int v24), (6, .int v17), (5, .int ix), (4, .ref (Z.2.2 57 0)), (3, .ref (Z.2.2 56 0)), (2, .ref (Z.2.2 26 0)), (1, .ref (Z.2.2 0 0)), (0, .ref b)]) hx hb dL_law_346 hl (by decide) rfl (fun ls hl => ?_)
      refine lv_goto (tgt := 1621) hx hb dL_law_348 (by decide) ?_
      refine lv_iinc (v := (ix + (4 : Int32))) (lv' := [(5, .int (ix + (4 : Int32))), (7, .int v24), (6, .int v17), (4, .ref (Z.2.2 57 0)), (3, .ref (Z.2.2 56 0)), (2, .ref (Z.2.2 26 0)), (1, .ref (Z.2.2 0 0)), (0, .ref b)]) hx hb dL_law_1621 hl (k := 2) rfl rfl (by decide) rfl (fun ls hl => ?_)
      refine lv_goto (tgt := 28) hx hb dL_law_1624 (by decide) ?_
      refine W.widen (k := cells + 3) (n := slots + 18) (by omega) (by omega) ?_
      exact hrc _ _ _ _ _ _ _ hk hP hS (lv_sub hl [0, 3, 4, 5, 6, 7] rfl)
    · have hk := it_f cz23 hk
      refine lv_iconst (v := (1 : Int32)) hx hb dL_law_338 (by decide) ?_
      refine lv_goto (tgt := 343) hx hb dL_law_339 (by decide) ?_
      obtain ⟨M28, v27, hf29, hk⟩ := b1_s hk
      refine wc_iV0 (rest := []) (As := [.int (xs ((ix + (1 : Int32))).toNatClampNeg), .int (1 : Int32)]) ⟨hx, hb, hml, hown, hts⟩ (fun sz => k_X7_number l hfl Z hZ X18 M O19 (xs ((ix + (1 : Int32))).toNatClampNeg) (1 : Int32) M28 v27 hf29 sz) (cw_RL_170 (args := _) (s := s) hts (Nat.le_of_ble_eq_true rfl) (Nat.le_of_ble_eq_true rfl)) hE hP hK hS (rv_26 hK hP (by decide)) rfl hl.1 rfl (Nat.le_of_ble_eq_true rfl) dL_law_343 ⟨by show _ ≤ 603072; omega, by show _ ≤ 7223402; omega⟩ (fun H locs hP hS => ?_)
      refine lv_istore (lv' := [(7, .int v27), (6, .int v17), (5, .int ix), (4, .ref (Z.2.2 57 0)), (3, .ref (Z.2.2 56 0)), (2, .ref (Z.2.2 26 0)), (1, .ref (Z.2.2 0 0)), (0, .ref b)]) hx hb dL_law_346 hl (by decide) rfl (fun ls hl => ?_)
      refine lv_goto (tgt := 1621) hx hb dL_law_348 (by decide) ?_
      refine lv_iinc (v := (ix + (4 : Int32))) (lv' := [(5, .int (ix + (4 : Int32))), (7, .int v27), (6, .int v17), (4, .ref (Z.2.2 57 0)), (3, .ref (Z.2.2 56 0)), (2, .ref (Z.2.2 26 0)), (1, .ref (Z.2.2 0 0)), (0, .ref b)]) hx hb dL_law_1621 hl (k := 2) rfl rfl (by decide) rfl (fun ls hl => ?_)
      refine lv_goto (tgt := 28) hx hb dL_law_1624 (by decide) ?_
      refine W.widen (k := cells + 3) (n := slots + 18) (by omega) (by omega) ?_
      exact hrc _ _ _ _ _ _ _ hk hP hS (lv_sub hl [0, 3, 4, 5, 6, 7] rfl)
set_option maxHeartbeats 4000000 in
set_option maxRecDepth 100000 in
theorem law_C3 (hfl : l.stackTraces = false) (hZ : wD Z) (hx : p.tables.exec = Jvm.exec) (hb : c.code = code) (hml : c.maxLocals = 9) (hown : s.vm.findClass RL = some m.cls) (hts : ∀ w ∈ lw_all, w.before #[Value.ref b] s = true) (hE : EV (wA Z s.heap.size) s) (hK : wK Z s) (hX : va_X b L xs s s.heap) (hbl : b < s.heap.size) (hbA : ¬ wA Z s.heap.size b) {rc : Int32 → SS → SS → SS → Option Unit} {cells slots : Nat} (hcc : cells + 3 ≤ 603072) (hss : slots + 18 ≤ 7223402) (hrc : ∀ (ix : Int32) (X M O : SS) (H : Heap) (locs : List Loc) (ls : Array Slot), rc ix X M O = some () → wP Z (X, M, O) H → va_S (wA Z s.heap.size) s.heap H locs → lv_has ls 9 [(5, .int ix), (4, .ref (Z.2.2 57 0)), (3, .ref (Z.2.2 56 0)), (2, .ref (Z.2.2 26 0)), (1, .ref (Z.2.2 0 0)), (0, .ref b)] → W p l e room_1 s m #[Value.ref b] below meth c H locs (cells + 3) (slots + 18) Q (F0 m 28 ls [])) (ix : Int32) (X M O : SS) (H : Heap) (locs : List Loc) (ls : Array Slot) (hk : f_law_C3 xs L ix X M O rc = some ()) (hP : wP Z (X, M, O) H) (hS : va_S (wA Z s.heap.size) s.heap H locs) (hl : lv_has ls 9 [(5, .int ix), (4, .ref (Z.2.2 57 0)), (3, .ref (Z.2.2 56 0)), (2, .ref (Z.2.2 26 0)), (1, .ref (Z.2.2 0 0)), (0, .ref b)]) : W p l e room_1 s m #[Value.ref b] below meth c H locs cells slots Q (F0 m 351 ls []) := by
  unfold f_law_C3 at hk
  refine lv_aload_n hx hb dL_law_351 rfl (lv_at hl 4 rfl) ?_
  obtain ⟨X2, v1, hf3, hk⟩ := b1_s hk
  refine wc_iV0 (rest := []) (As := []) ⟨hx, hb, hml, hown, hts⟩ (fun sz => k_X6_clear l hfl Z hZ X M O X2 v1 hf3 sz) (cw_RL_171 (args := _) (s := s) hts (Nat.le_of_ble_eq_true rfl) (Nat.le_of_ble_eq_true rfl)) hE hP hK hS (rv_0 hK hP (by decide)) rfl hl.1 rfl (Nat.le_of_ble_eq_true rfl) dL_law_352 ⟨by show _ ≤ 603072; omega, by show _ ≤ 7223402; omega⟩ (fun H locs hP hS => ?_)
  refine lv_pop hx hb dL_law_355 rfl ?_
  refine lv_aload_n hx hb dL_law_356 rfl (lv_at hl 3 rfl) ?_
  obtain ⟨M5, v4, hf6, hk⟩ := b1_s hk
  refine wc_iV0 (rest := []) (As := []) ⟨hx, hb, hml, hown, hts⟩ (fun sz => k_X7_clear l hfl Z hZ X2 M O M5 v4 hf6 sz) (cw_RL_174 (args := _) (s := s) hts (Nat.le_of_ble_eq_true rfl) (Nat.le_of_ble_eq_true rfl)) hE hP hK hS (rv_26 hK hP (by decide)) rfl hl.1 rfl (Nat.le_of_ble_eq_true rfl) dL_law_357 ⟨by show _ ≤ 603072; omega, by show _ ≤ 7223402; omega⟩ (fun H locs hP hS => ?_)
  refine lv_pop hx hb dL_law_360 rfl ?_
  refine lv_goto (tgt := 1621) hx hb dL_law_361 (by decide) ?_
  refine lv_iinc (v := (ix + (4 : Int32))) (lv' := [(5, .int (ix + (4 : Int32))), (4, .ref (Z.2.2 57 0)), (3, .ref (Z.2.2 56 0)), (2, .ref (Z.2.2 26 0)), (1, .ref (Z.2.2 0 0)), (0, .ref b)]) hx hb dL_law_1621 hl (k := 0) rfl rfl (by decide) rfl (fun ls hl => ?_)
  refine lv_goto (tgt := 28) hx hb dL_law_1624 (by decide) ?_
  refine W.widen (k := cells + 3) (n := slots + 18) (by omega) (by omega) ?_
  exact hrc _ _ _ _ _ _ _ hk hP hS (lv_sub hl [0, 1, 2, 3, 4, 5] rfl)
set_option maxHeartbeats 4000000 in
set_option maxRecDepth 100000 in
theorem law_C4 (hfl : l.stackTraces = false) (hZ : wD Z) (hx : p.tables.exec = Jvm.exec) (hb : c.code = code) (hml : c.maxLocals = 9) (hown : s.vm.findClass RL = some m.cls) (hts : ∀ w ∈ lw_all, w.before #[Value.ref b] s = true) (hE : EV (wA Z s.heap.size) s) (hK : wK Z s) (hX : va_X b L xs s s.heap) (hbl : b < s.heap.size) (hbA : ¬ wA Z s.heap.size b) {rc : Int32 → SS → SS → SS → Option Unit} {cells slots : Nat} (hcc : cells + 3 ≤ 603072) (hss : slots + 18 ≤ 7223402) (hrc : ∀ (ix : Int32) (X M O : SS) (H : Heap) (locs : List Loc) (ls : Array Slot), rc ix X M O = some () → wP Z (X, M, O) H → va_S (wA Z s.heap.size) s.heap H locs → lv_has ls 9 [(5, .int ix), (4, .ref (Z.2.2 57 0)), (3, .ref (Z.2.2 56 0)), (2, .ref (Z.2.2 26 0)), (1, .ref (Z.2.2 0 0)), (0, .ref b)] → W p l e room_1 s m #[Value.ref b] below meth c H locs (cells + 3) (slots + 18) Q (F0 m 28 ls [])) (ix : Int32) (X M O : SS) (H : Heap) (locs : List Loc) (ls : Array Slot) (hk : f_law_C4 xs L ix X M O rc = some ()) (hP : wP Z (X, M, O) H) (hS : va_S (wA Z s.heap.size) s.heap H locs) (hl : lv_has ls 9 [(5, .int ix), (4, .ref (Z.2.2 57 0)), (3, .ref (Z.2.2 56 0)), (2, .ref (Z.2.2 26 0)), (1, .ref (Z.2.2 0 0)), (0, .ref b)]) : W p l e room_1 s m #[Value.ref b] below meth c H locs cells slots Q (F0 m 364 ls []) := by
  unfold f_law_C4 at hk
  refine lv_aload_n hx hb dL_law_364 rfl (lv_at hl 4 rfl) ?_
  refine lv_aload_n hx hb dL_law_365 rfl (lv_at hl 5 rfl) ?_
  refine lv_iload hx hb dL_law_366 (lv_at hl 0 rfl) ?_
  refine lv_iconst (v := (1 : Int32)) hx hb dL_law_368 (by decide) ?_
  refine lv_iadd hx hb dL_law_369 ?_
  obtain ⟨hg1, hk⟩ := gd_s hk
  refine va_sld hx hb hX hbl hbA hS hg1 dL_law_370 ?_
  refine lv_aload_n hx hb dL_law_371 rfl (lv_at hl 2 rfl) ?_
  obtain ⟨X3, O4, v2, hf5, hk⟩ := b2_s hk
  refine wc_iSX0 (rest := []) (As := [.ref (Z.2.2 0 0), .int (xs ((ix + (1 : Int32))).toNatClampNeg), .ref (Z.2.2 56 0)]) ⟨hx, hb, hml, hown, hts⟩ (fun sz => k_L_kata l hfl Z hZ X M O (xs ((ix + (1 : Int32))).toNatClampNeg) X3 O4 v2 hf5 sz) (cw_RL_175 (args := _) (s := s) hts (Nat.le_of_ble_eq_true rfl) (Nat.le_of_ble_eq_true rfl)) hE hP hK hS  rfl hl.1 rfl (Nat.le_of_ble_eq_true rfl) dL_law_372 ⟨by show _ ≤ 603072; omega, by show _ ≤ 7223402; omega⟩ (fun H locs hP hS => ?_)
  refine lv_istore (lv' := [(6, .int v2), (5, .int ix), (4, .ref (Z.2.2 57 0)), (3, .ref (Z.2.2 56 0)), (2, .ref (Z.2.2 26 0)), (1, .ref (Z.2.2 0 0)), (0, .ref b)]) hx hb dL_law_375 hl (by decide) rfl (fun ls hl => ?_)
  refine lv_aload_n hx hb dL_law_377 rfl (lv_at hl 4 rfl) ?_
  refine lv_aload_n hx hb dL_law_378 rfl (lv_at hl 6 rfl) ?_
  refine lv_iload hx hb dL_law_379 (lv_at hl 1 rfl) ?_
  refine lv_iconst (v := (1 : Int32)) hx hb dL_law_381 (by decide) ?_
  refine lv_iadd hx hb dL_law_382 ?_
  obtain ⟨hg6, hk⟩ := gd_s hk
  refine va_sld hx hb hX hbl hbA hS hg6 dL_law_383 ?_
  obtain ⟨M8, v7, hf9, hk⟩ := b1_s hk
  refine wc_iV0 (rest := []) (As := [.int (xs ((ix + (1 : Int32))).toNatClampNeg)]) ⟨hx, hb, hml, hown, hts⟩ (fun sz => k_X7_kata l hfl Z hZ X3 M O4 (xs ((ix + (1 : Int32))).toNatClampNeg) M8 v7 hf9 sz) (cw_RL_178 (args := _) (s := s) hts (Nat.le_of_ble_eq_true rfl) (Nat.le_of_ble_eq_true rfl)) hE hP hK hS (rv_26 hK hP (by decide)) rfl hl.1 rfl (Nat.le_of_ble_eq_true rfl) dL_law_384 ⟨by show _ ≤ 603072; omega, by show _ ≤ 7223402; omega⟩ (fun H locs hP hS => ?_)
  refine lv_istore (lv' := [(7, .int v7), (6, .int v2), (5, .int ix), (4, .ref (Z.2.2 57 0)), (3, .ref (Z.2.2 56 0)), (2, .ref (Z.2.2 26 0)), (1, .ref (Z.2.2 0 0)), (0, .ref b)]) hx hb dL_law_387 hl (by decide) rfl (fun ls hl => ?_)
  refine lv_goto (tgt := 1621) hx hb dL_law_389 (by decide) ?_
  refine lv_iinc (v := (ix + (4 : Int32))) (lv' := [(5, .int (ix + (4 : Int32))), (7, .int v7), (6, .int v2), (4, .ref (Z.2.2 57 0)), (3, .ref (Z.2.2 56 0)), (2, .ref (Z.2.2 26 0)), (1, .ref (Z.2.2 0 0)), (0, .ref b)]) hx hb dL_law_1621 hl (k := 2) rfl rfl (by decide) rfl (fun ls hl => ?_)
  refine lv_goto (tgt := 28) hx hb dL_law_1624 (by decide) ?_
  refine W.widen (k := cells + 3) (n := slots + 18) (by omega) (by omega) ?_
  exact hrc _ _ _ _ _ _ _ hk hP hS (lv_sub hl [0, 3, 4, 5, 6, 7] rfl)
set_option maxHeartbeats 4000000 in
set_option maxRecDepth 100000 in
theorem law_C5 (hfl : l.stackTraces = false) (hZ : wD Z) (hx : p.tables.exec = Jvm.exec) (hb : c.code = code) (hml : c.maxLocals = 9) (hown : s.vm.findClass RL = some m.cls) (hts : ∀ w ∈ lw_all, w.before #[Value.ref b] s = true) (hE : EV (wA Z s.heap.size) s) (hK : wK Z s) (hX : va_X b L xs s s.heap) (hbl : b < s.heap.size) (hbA : ¬ wA Z s.heap.size b) {rc : Int32 → SS → SS → SS → Option Unit} {cells slots : Nat} (hcc : cells + 3 ≤ 603072) (hss : slots + 18 ≤ 7223402) (hrc : ∀ (ix : Int32) (X M O : SS) (H : Heap) (locs : List Loc) (ls : Array Slot), rc ix X M O = some () → wP Z (X, M, O) H → va_S (wA Z s.heap.size) s.heap H locs → lv_has ls 9 [(5, .int ix), (4, .ref (Z.2.2 57 0)), (3, .ref (Z.2.2 56 0)), (2, .ref (Z.2.2 26 0)), (1, .ref (Z.2.2 0 0)), (0, .ref b)] → W p l e room_1 s m #[Value.ref b] below meth c H locs (cells + 3) (slots + 18) Q (F0 m 28 ls [])) (ix : Int32) (X M O : SS) (H : Heap) (locs : List Loc) (ls : Array Slot) (hk : f_law_C5 xs L ix X M O rc = some ()) (hP : wP Z (X, M, O) H) (hS : va_S (wA Z s.heap.size) s.heap H locs) (hl : lv_has ls 9 [(5, .int ix), (4, .ref (Z.2.2 57 0)), (3, .ref (Z.2.2 56 0)), (2, .ref (Z.2.2 26 0)), (1, .ref (Z.2.2 0 0)), (0, .ref b)]) : W p l e room_1 s m #[Value.ref b] below meth c H locs cells slots Q (F0 m 392 ls []) := by
  unfold f_law_C5 at hk
  refine lv_aload_n hx hb dL_law_392 rfl (lv_at hl 4 rfl) ?_
  refine lv_aload_n hx hb dL_law_393 rfl (lv_at hl 5 rfl) ?_
  refine lv_iload hx hb dL_law_394 (lv_at hl 0 rfl) ?_
  refine lv_iconst (v := (1 : Int32)) hx hb dL_law_396 (by decide) ?_
  refine lv_iadd hx hb dL_law_397 ?_
  obtain ⟨hg1, hk⟩ := gd_s hk
  refine va_sld hx hb hX hbl hbA hS hg1 dL_law_398 ?_
  refine lv_aload_n hx hb dL_law_399 rfl (lv_at hl 2 rfl) ?_
  obtain ⟨X3, O4, v2, hf5, hk⟩ := b2_s hk
  refine wc_iSX0 (rest := []) (As := [.ref (Z.2.2 0 0), .int (xs ((ix + (1 : Int32))).toNatClampNeg), .ref (Z.2.2 56 0)]) ⟨hx, hb, hml, hown, hts⟩ (fun sz => k_L_test l hfl Z hZ X M O (xs ((ix + (1 : Int32))).toNatClampNeg) X3 O4 v2 hf5 sz) (cw_RL_179 (args := _) (s := s) hts (Nat.le_of_ble_eq_true rfl) (Nat.le_of_ble_eq_true rfl)) hE hP hK hS  rfl hl.1 rfl (Nat.le_of_ble_eq_true rfl) dL_law_400 ⟨by show _ ≤ 603072; omega, by show _ ≤ 7223402; omega⟩ (fun H locs hP hS => ?_)
  refine lv_istore (lv' := [(6, .int v2), (5, .int ix), (4, .ref (Z.2.2 57 0)), (3, .ref (Z.2.2 56 0)), (2, .ref (Z.2.2 26 0)), (1, .ref (Z.2.2 0 0)), (0, .ref b)]) hx hb dL_law_403 hl (by decide) rfl (fun ls hl => ?_)
  refine lv_aload_n hx hb dL_law_405 rfl (lv_at hl 4 rfl) ?_
  refine lv_aload_n hx hb dL_law_406 rfl (lv_at hl 6 rfl) ?_
  refine lv_iload hx hb dL_law_407 (lv_at hl 1 rfl) ?_
  refine lv_iconst (v := (1 : Int32)) hx hb dL_law_409 (by decide) ?_
  refine lv_iadd hx hb dL_law_410 ?_
  obtain ⟨hg6, hk⟩ := gd_s hk
  refine va_sld hx hb hX hbl hbA hS hg6 dL_law_411 ?_
  obtain ⟨M8, v7, hf9, hk⟩ := b1_s hk
  refine wc_iV0 (rest := []) (As := [.int (xs ((ix + (1 : Int32))).toNatClampNeg)]) ⟨hx, hb, hml, hown, hts⟩ (fun sz => k_X7_test l hfl Z hZ X3 M O4 (xs ((ix + (1 : Int32))).toNatClampNeg) M8 v7 hf9 sz) (cw_RL_181 (args := _) (s := s) hts (Nat.le_of_ble_eq_true rfl) (Nat.le_of_ble_eq_true rfl)) hE hP hK hS (rv_26 hK hP (by decide)) rfl hl.1 rfl (Nat.le_of_ble_eq_true rfl) dL_law_412 ⟨by show _ ≤ 603072; omega, by show _ ≤ 7223402; omega⟩ (fun H locs hP hS => ?_)
  refine lv_istore (lv' := [(7, .int v7), (6, .int v2), (5, .int ix), (4, .ref (Z.2.2 57 0)), (3, .ref (Z.2.2 56 0)), (2, .ref (Z.2.2 26 0)), (1, .ref (Z.2.2 0 0)), (0, .ref b)]) hx hb dL_law_415 hl (by decide) rfl (fun ls hl => ?_)
  refine lv_goto (tgt := 1621) hx hb dL_law_417 (by decide) ?_
  refine lv_iinc (v := (ix + (4 : Int32))) (lv' := [(5, .int (ix + (4 : Int32))), (7, .int v7), (6, .int v2), (4, .ref (Z.2.2 57 0)), (3, .ref (Z.2.2 56 0)), (2, .ref (Z.2.2 26 0)), (1, .ref (Z.2.2 0 0)), (0, .ref b)]) hx hb dL_law_1621 hl (k := 2) rfl rfl (by decide) rfl (fun ls hl => ?_)
  refine lv_goto (tgt := 28) hx hb dL_law_1624 (by decide) ?_
  refine W.widen (k := cells + 3) (n := slots + 18) (by omega) (by omega) ?_
  exact hrc _ _ _ _ _ _ _ hk hP hS (lv_sub hl [0, 3, 4, 5, 6, 7] rfl)
set_option maxHeartbeats 4000000 in
set_option maxRecDepth 100000 in
theorem law_C6 (hfl : l.stackTraces = false) (hZ : wD Z) (hx : p.tables.exec = Jvm.exec) (hb : c.code = code) (hml : c.maxLocals = 9) (hown : s.vm.findClass RL = some m.cls) (hts : ∀ w ∈ lw_all, w.before #[Value.ref b] s = true) (hE : EV (wA Z s.heap.size) s) (hK : wK Z s) (hX : va_X b L xs s s.heap) (hbl : b < s.heap.size) (hbA : ¬ wA Z s.heap.size b) {rc : Int32 → SS → SS → SS → Option Unit} {cells slots : Nat} (hcc : cells + 3 ≤ 603072) (hss : slots + 18 ≤ 7223402) (hrc : ∀ (ix : Int32) (X M O : SS) (H : Heap) (locs : List Loc) (ls : Array Slot), rc ix X M O = some () → wP Z (X, M, O) H → va_S (wA Z s.heap.size) s.heap H locs → lv_has ls 9 [(5, .int ix), (4, .ref (Z.2.2 57 0)), (3, .ref (Z.2.2 56 0)), (2, .ref (Z.2.2 26 0)), (1, .ref (Z.2.2 0 0)), (0, .ref b)] → W p l e room_1 s m #[Value.ref b] below meth c H locs (cells + 3) (slots + 18) Q (F0 m 28 ls [])) (ix : Int32) (X M O : SS) (H : Heap) (locs : List Loc) (ls : Array Slot) (hk : f_law_C6 xs L ix X M O rc = some ()) (hP : wP Z (X, M, O) H) (hS : va_S (wA Z s.heap.size) s.heap H locs) (hl : lv_has ls 9 [(5, .int ix), (4, .ref (Z.2.2 57 0)), (3, .ref (Z.2.2 56 0)), (2, .ref (Z.2.2 26 0)), (1, .ref (Z.2.2 0 0)), (0, .ref b)]) : W p l e room_1 s m #[Value.ref b] below meth c H locs cells slots Q (F0 m 420 ls []) := by
  unfold f_law_C6 at hk
  refine lv_aload_n hx hb dL_law_420 rfl (lv_at hl 4 rfl) ?_
  refine lv_aload_n hx hb dL_law_421 rfl (lv_at hl 5 rfl) ?_
  refine lv_iload hx hb dL_law_422 (lv_at hl 0 rfl) ?_
  refine lv_iconst (v := (1 : Int32)) hx hb dL_law_424 (by decide) ?_
  refine lv_iadd hx hb dL_law_425 ?_
  obtain ⟨hg1, hk⟩ := gd_s hk
  refine va_sld hx hb hX hbl hbA hS hg1 dL_law_426 ?_
  refine lv_aload_n hx hb dL_law_427 rfl (lv_at hl 5 rfl) ?_
  refine lv_iload hx hb dL_law_428 (lv_at hl 0 rfl) ?_
  refine lv_iconst (v := (2 : Int32)) hx hb dL_law_430 (by decide) ?_
  refine lv_iadd hx hb dL_law_431 ?_
  obtain ⟨hg2, hk⟩ := gd_s hk
  refine va_sld hx hb hX hbl hbA hS hg2 dL_law_432 ?_
  refine lv_aload_n hx hb dL_law_433 rfl (lv_at hl 2 rfl) ?_
  obtain ⟨X4, O5, v3, hf6, hk⟩ := b2_s hk
  refine wc_iSX0 (rest := []) (As := [.ref (Z.2.2 0 0), .int (xs ((ix + (1 : Int32))).toNatClampNeg), .int (xs ((ix + (2 : Int32))).toNatClampNeg), .ref (Z.2.2 56 0)]) ⟨hx, hb, hml, hown, hts⟩ (fun sz => k_L_fix l hfl Z hZ X M O (xs ((ix + (1 : Int32))).toNatClampNeg) (xs ((ix + (2 : Int32))).toNatClampNeg) X4 O5 v3 hf6 sz) (cw_RL_182 (args := _) (s := s) hts (Nat.le_of_ble_eq_true rfl) (Nat.le_of_ble_eq_true rfl)) hE hP hK hS  rfl hl.1 rfl (Nat.le_of_ble_eq_true rfl) dL_law_434 ⟨by show _ ≤ 603072; omega, by show _ ≤ 7223402; omega⟩ (fun H locs hP hS => ?_)
  refine lv_istore (lv' := [(6, .int v3), (5, .int ix), (4, .ref (Z.2.2 57 0)), (3, .ref (Z.2.2 56 0)), (2, .ref (Z.2.2 26 0)), (1, .ref (Z.2.2 0 0)), (0, .ref b)]) hx hb dL_law_437 hl (by decide) rfl (fun ls hl => ?_)
  refine lv_aload_n hx hb dL_law_439 rfl (lv_at hl 4 rfl) ?_
  refine lv_aload_n hx hb dL_law_440 rfl (lv_at hl 6 rfl) ?_
  refine lv_iload hx hb dL_law_441 (lv_at hl 1 rfl) ?_
  refine lv_iconst (v := (1 : Int32)) hx hb dL_law_443 (by decide) ?_
  refine lv_iadd hx hb dL_law_444 ?_
  obtain ⟨hg7, hk⟩ := gd_s hk
  refine va_sld hx hb hX hbl hbA hS hg7 dL_law_445 ?_
  refine lv_aload_n hx hb dL_law_446 rfl (lv_at hl 6 rfl) ?_
  refine lv_iload hx hb dL_law_447 (lv_at hl 1 rfl) ?_
  refine lv_iconst (v := (2 : Int32)) hx hb dL_law_449 (by decide) ?_
  refine lv_iadd hx hb dL_law_450 ?_
  obtain ⟨hg8, hk⟩ := gd_s hk
  refine va_sld hx hb hX hbl hbA hS hg8 dL_law_451 ?_
  obtain ⟨M10, v9, hf11, hk⟩ := b1_s hk
  refine wc_iV0 (rest := []) (As := [.int (xs ((ix + (1 : Int32))).toNatClampNeg), .int (xs ((ix + (2 : Int32))).toNatClampNeg)]) ⟨hx, hb, hml, hown, hts⟩ (fun sz => k_X7_fix l hfl Z hZ X4 M O5 (xs ((ix + (1 : Int32))).toNatClampNeg) (xs ((ix + (2 : Int32))).toNatClampNeg) M10 v9 hf11 sz) (cw_RL_185 (args := _) (s := s) hts (Nat.le_of_ble_eq_true rfl) (Nat.le_of_ble_eq_true rfl)) hE hP hK hS (rv_26 hK hP (by decide)) rfl hl.1 rfl (Nat.le_of_ble_eq_true rfl) dL_law_452 ⟨by show _ ≤ 603072; omega, by show _ ≤ 7223402; omega⟩ (fun H locs hP hS => ?_)
  refine lv_istore (lv' := [(7, .int v9), (6, .int v3), (5, .int ix), (4, .ref (Z.2.2 57 0)), (3, .ref (Z.2.2 56 0)), (2, .ref (Z.2.2 26 0)), (1, .ref (Z.2.2 0 0)), (0, .ref b)]) hx hb dL_law_455 hl (by decide) rfl (fun ls hl => ?_)
  refine lv_goto (tgt := 1621) hx hb dL_law_457 (by decide) ?_
  refine lv_iinc (v := (ix + (4 : Int32))) (lv' := [(5, .int (ix + (4 : Int32))), (7, .int v9), (6, .int v3), (4, .ref (Z.2.2 57 0)), (3, .ref (Z.2.2 56 0)), (2, .ref (Z.2.2 26 0)), (1, .ref (Z.2.2 0 0)), (0, .ref b)]) hx hb dL_law_1621 hl (k := 2) rfl rfl (by decide) rfl (fun ls hl => ?_)
  refine lv_goto (tgt := 28) hx hb dL_law_1624 (by decide) ?_
  refine W.widen (k := cells + 3) (n := slots + 18) (by omega) (by omega) ?_
  exact hrc _ _ _ _ _ _ _ hk hP hS (lv_sub hl [0, 3, 4, 5, 6, 7] rfl)
set_option maxHeartbeats 4000000 in
set_option maxRecDepth 100000 in
theorem law_C7 (hfl : l.stackTraces = false) (hZ : wD Z) (hx : p.tables.exec = Jvm.exec) (hb : c.code = code) (hml : c.maxLocals = 9) (hown : s.vm.findClass RL = some m.cls) (hts : ∀ w ∈ lw_all, w.before #[Value.ref b] s = true) (hE : EV (wA Z s.heap.size) s) (hK : wK Z s) (hX : va_X b L xs s s.heap) (hbl : b < s.heap.size) (hbA : ¬ wA Z s.heap.size b) {rc : Int32 → SS → SS → SS → Option Unit} {cells slots : Nat} (hcc : cells + 3 ≤ 603072) (hss : slots + 18 ≤ 7223402) (hrc : ∀ (ix : Int32) (X M O : SS) (H : Heap) (locs : List Loc) (ls : Array Slot), rc ix X M O = some () → wP Z (X, M, O) H → va_S (wA Z s.heap.size) s.heap H locs → lv_has ls 9 [(5, .int ix), (4, .ref (Z.2.2 57 0)), (3, .ref (Z.2.2 56 0)), (2, .ref (Z.2.2 26 0)), (1, .ref (Z.2.2 0 0)), (0, .ref b)] → W p l e room_1 s m #[Value.ref b] below meth c H locs (cells + 3) (slots + 18) Q (F0 m 28 ls [])) (ix : Int32) (X M O : SS) (H : Heap) (locs : List Loc) (ls : Array Slot) (hk : f_law_C7 xs L ix X M O rc = some ()) (hP : wP Z (X, M, O) H) (hS : va_S (wA Z s.heap.size) s.heap H locs) (hl : lv_has ls 9 [(5, .int ix), (4, .ref (Z.2.2 57 0)), (3, .ref (Z.2.2 56 0)), (2, .ref (Z.2.2 26 0)), (1, .ref (Z.2.2 0 0)), (0, .ref b)]) : W p l e room_1 s m #[Value.ref b] below meth c H locs cells slots Q (F0 m 460 ls []) := by
  unfold f_law_C7 at hk
  refine lv_aload_n hx hb dL_law_460 rfl (lv_at hl 4 rfl) ?_
  refine lv_aload_n hx hb dL_law_461 rfl (lv_at hl 5 rfl) ?_
  refine lv_iload hx hb dL_law_462 (lv_at hl 0 rfl) ?_
  refine lv_iconst (v := (1 : Int32)) hx hb dL_law_464 (by decide) ?_
  refine lv_iadd hx hb dL_law_465 ?_
  obtain ⟨hg1, hk⟩ := gd_s hk
  refine va_sld hx hb hX hbl hbA hS hg1 dL_law_466 ?_
  refine lv_aload_n hx hb dL_law_467 rfl (lv_at hl 2 rfl) ?_
  obtain ⟨O3, v2, hf4, hk⟩ := b1_s hk
  refine wc_iSX0 (rest := []) (As := [.ref (Z.2.2 0 0), .int (xs ((ix + (1 : Int32))).toNatClampNeg), .ref (Z.2.2 56 0)]) ⟨hx, hb, hml, hown, hts⟩ (fun sz => k_L_tests l hfl Z hZ X M O (xs ((ix + (1 : Int32))).toNatClampNeg) O3 v2 hf4 sz) (cw_RL_186 (args := _) (s := s) hts (Nat.le_of_ble_eq_true rfl) (Nat.le_of_ble_eq_true rfl)) hE hP hK hS  rfl hl.1 rfl (Nat.le_of_ble_eq_true rfl) dL_law_468 ⟨by show _ ≤ 603072; omega, by show _ ≤ 7223402; omega⟩ (fun H locs hP hS => ?_)
  refine lv_istore (lv' := [(6, .int v2), (5, .int ix), (4, .ref (Z.2.2 57 0)), (3, .ref (Z.2.2 56 0)), (2, .ref (Z.2.2 26 0)), (1, .ref (Z.2.2 0 0)), (0, .ref b)]) hx hb dL_law_471 hl (by decide) rfl (fun ls hl => ?_)
  refine lv_aload_n hx hb dL_law_473 rfl (lv_at hl 4 rfl) ?_
  refine lv_aload_n hx hb dL_law_474 rfl (lv_at hl 6 rfl) ?_
  refine lv_iload hx hb dL_law_475 (lv_at hl 1 rfl) ?_
  refine lv_iconst (v := (1 : Int32)) hx hb dL_law_477 (by decide) ?_
  refine lv_iadd hx hb dL_law_478 ?_
  obtain ⟨hg5, hk⟩ := gd_s hk
  refine va_sld hx hb hX hbl hbA hS hg5 dL_law_479 ?_
  obtain ⟨M7, v6, hf8, hk⟩ := b1_s hk
  refine wc_iV0 (rest := []) (As := [.int (xs ((ix + (1 : Int32))).toNatClampNeg)]) ⟨hx, hb, hml, hown, hts⟩ (fun sz => k_X7_tests l hfl Z hZ X M O3 (xs ((ix + (1 : Int32))).toNatClampNeg) M7 v6 hf8 sz) (cw_RL_188 (args := _) (s := s) hts (Nat.le_of_ble_eq_true rfl) (Nat.le_of_ble_eq_true rfl)) hE hP hK hS (rv_26 hK hP (by decide)) rfl hl.1 rfl (Nat.le_of_ble_eq_true rfl) dL_law_480 ⟨by show _ ≤ 603072; omega, by show _ ≤ 7223402; omega⟩ (fun H locs hP hS => ?_)
  refine lv_istore (lv' := [(7, .int v6), (6, .int v2), (5, .int ix), (4, .ref (Z.2.2 57 0)), (3, .ref (Z.2.2 56 0)), (2, .ref (Z.2.2 26 0)), (1, .ref (Z.2.2 0 0)), (0, .ref b)]) hx hb dL_law_483 hl (by decide) rfl (fun ls hl => ?_)
  refine lv_goto (tgt := 1621) hx hb dL_law_485 (by decide) ?_
  refine lv_iinc (v := (ix + (4 : Int32))) (lv' := [(5, .int (ix + (4 : Int32))), (7, .int v6), (6, .int v2), (4, .ref (Z.2.2 57 0)), (3, .ref (Z.2.2 56 0)), (2, .ref (Z.2.2 26 0)), (1, .ref (Z.2.2 0 0)), (0, .ref b)]) hx hb dL_law_1621 hl (k := 2) rfl rfl (by decide) rfl (fun ls hl => ?_)
  refine lv_goto (tgt := 28) hx hb dL_law_1624 (by decide) ?_
  refine W.widen (k := cells + 3) (n := slots + 18) (by omega) (by omega) ?_
  exact hrc _ _ _ _ _ _ _ hk hP hS (lv_sub hl [0, 3, 4, 5, 6, 7] rfl)
set_option maxHeartbeats 4000000 in
set_option maxRecDepth 100000 in
theorem law_C8 (hfl : l.stackTraces = false) (hZ : wD Z) (hx : p.tables.exec = Jvm.exec) (hb : c.code = code) (hml : c.maxLocals = 9) (hown : s.vm.findClass RL = some m.cls) (hts : ∀ w ∈ lw_all, w.before #[Value.ref b] s = true) (hE : EV (wA Z s.heap.size) s) (hK : wK Z s) (hX : va_X b L xs s s.heap) (hbl : b < s.heap.size) (hbA : ¬ wA Z s.heap.size b) {rc : Int32 → SS → SS → SS → Option Unit} {cells slots : Nat} (hcc : cells + 3 ≤ 603072) (hss : slots + 18 ≤ 7223402) (hrc : ∀ (ix : Int32) (X M O : SS) (H : Heap) (locs : List Loc) (ls : Array Slot), rc ix X M O = some () → wP Z (X, M, O) H → va_S (wA Z s.heap.size) s.heap H locs → lv_has ls 9 [(5, .int ix), (4, .ref (Z.2.2 57 0)), (3, .ref (Z.2.2 56 0)), (2, .ref (Z.2.2 26 0)), (1, .ref (Z.2.2 0 0)), (0, .ref b)] → W p l e room_1 s m #[Value.ref b] below meth c H locs (cells + 3) (slots + 18) Q (F0 m 28 ls [])) (ix : Int32) (X M O : SS) (H : Heap) (locs : List Loc) (ls : Array Slot) (hk : f_law_C8 xs L ix X M O rc = some ()) (hP : wP Z (X, M, O) H) (hS : va_S (wA Z s.heap.size) s.heap H locs) (hl : lv_has ls 9 [(5, .int ix), (4, .ref (Z.2.2 57 0)), (3, .ref (Z.2.2 56 0)), (2, .ref (Z.2.2 26 0)), (1, .ref (Z.2.2 0 0)), (0, .ref b)]) : W p l e room_1 s m #[Value.ref b] below meth c H locs cells slots Q (F0 m 488 ls []) := by
  unfold f_law_C8 at hk
  refine lv_aload_n hx hb dL_law_488 rfl (lv_at hl 4 rfl) ?_
  refine lv_aload_n hx hb dL_law_489 rfl (lv_at hl 5 rfl) ?_
  refine lv_iload hx hb dL_law_490 (lv_at hl 0 rfl) ?_
  refine lv_iconst (v := (1 : Int32)) hx hb dL_law_492 (by decide) ?_
  refine lv_iadd hx hb dL_law_493 ?_
  obtain ⟨hg1, hk⟩ := gd_s hk
  refine va_sld hx hb hX hbl hbA hS hg1 dL_law_494 ?_
  refine lv_aload_n hx hb dL_law_495 rfl (lv_at hl 5 rfl) ?_
  refine lv_iload hx hb dL_law_496 (lv_at hl 0 rfl) ?_
  refine lv_iconst (v := (2 : Int32)) hx hb dL_law_498 (by decide) ?_
  refine lv_iadd hx hb dL_law_499 ?_
  obtain ⟨hg2, hk⟩ := gd_s hk
  refine va_sld hx hb hX hbl hbA hS hg2 dL_law_500 ?_
  refine lv_aload_n hx hb dL_law_501 rfl (lv_at hl 2 rfl) ?_
  obtain ⟨X4, O5, v3, hf6, hk⟩ := b2_s hk
  refine wc_iSX0 (rest := []) (As := [.ref (Z.2.2 0 0), .int (xs ((ix + (1 : Int32))).toNatClampNeg), .int (xs ((ix + (2 : Int32))).toNatClampNeg), .ref (Z.2.2 56 0)]) ⟨hx, hb, hml, hown, hts⟩ (fun sz => k_L_run l hfl Z hZ X M O (xs ((ix + (1 : Int32))).toNatClampNeg) (xs ((ix + (2 : Int32))).toNatClampNeg) X4 O5 v3 hf6 sz) (cw_RL_189 (args := _) (s := s) hts (Nat.le_of_ble_eq_true rfl) (Nat.le_of_ble_eq_true rfl)) hE hP hK hS  rfl hl.1 rfl (Nat.le_of_ble_eq_true rfl) dL_law_502 ⟨by show _ ≤ 603072; omega, by show _ ≤ 7223402; omega⟩ (fun H locs hP hS => ?_)
  refine lv_istore (lv' := [(6, .int v3), (5, .int ix), (4, .ref (Z.2.2 57 0)), (3, .ref (Z.2.2 56 0)), (2, .ref (Z.2.2 26 0)), (1, .ref (Z.2.2 0 0)), (0, .ref b)]) hx hb dL_law_505 hl (by decide) rfl (fun ls hl => ?_)
  refine lv_aload_n hx hb dL_law_507 rfl (lv_at hl 4 rfl) ?_
  refine lv_aload_n hx hb dL_law_508 rfl (lv_at hl 6 rfl) ?_
  refine lv_iload hx hb dL_law_509 (lv_at hl 1 rfl) ?_
  refine lv_iconst (v := (1 : Int32)) hx hb dL_law_511 (by decide) ?_
  refine lv_iadd hx hb dL_law_512 ?_
  obtain ⟨hg7, hk⟩ := gd_s hk
  refine va_sld hx hb hX hbl hbA hS hg7 dL_law_513 ?_
  refine lv_aload_n hx hb dL_law_514 rfl (lv_at hl 6 rfl) ?_
  refine lv_iload hx hb dL_law_515 (lv_at hl 1 rfl) ?_
  refine lv_iconst (v := (2 : Int32)) hx hb dL_law_517 (by decide) ?_
  refine lv_iadd hx hb dL_law_518 ?_
  obtain ⟨hg8, hk⟩ := gd_s hk
  refine va_sld hx hb hX hbl hbA hS hg8 dL_law_519 ?_
  obtain ⟨M10, v9, hf11, hk⟩ := b1_s hk
  refine wc_iV0 (rest := []) (As := [.int (xs ((ix + (1 : Int32))).toNatClampNeg), .int (xs ((ix + (2 : Int32))).toNatClampNeg)]) ⟨hx, hb, hml, hown, hts⟩ (fun sz => k_X7_run l hfl Z hZ X4 M O5 (xs ((ix + (1 : Int32))).toNatClampNeg) (xs ((ix + (2 : Int32))).toNatClampNeg) M10 v9 hf11 sz) (cw_RL_191 (args := _) (s := s) hts (Nat.le_of_ble_eq_true rfl) (Nat.le_of_ble_eq_true rfl)) hE hP hK hS (rv_26 hK hP (by decide)) rfl hl.1 rfl (Nat.le_of_ble_eq_true rfl) dL_law_520 ⟨by show _ ≤ 603072; omega, by show _ ≤ 7223402; omega⟩ (fun H locs hP hS => ?_)
  refine lv_istore (lv' := [(7, .int v9), (6, .int v3), (5, .int ix), (4, .ref (Z.2.2 57 0)), (3, .ref (Z.2.2 56 0)), (2, .ref (Z.2.2 26 0)), (1, .ref (Z.2.2 0 0)), (0, .ref b)]) hx hb dL_law_523 hl (by decide) rfl (fun ls hl => ?_)
  refine lv_goto (tgt := 1621) hx hb dL_law_525 (by decide) ?_
  refine lv_iinc (v := (ix + (4 : Int32))) (lv' := [(5, .int (ix + (4 : Int32))), (7, .int v9), (6, .int v3), (4, .ref (Z.2.2 57 0)), (3, .ref (Z.2.2 56 0)), (2, .ref (Z.2.2 26 0)), (1, .ref (Z.2.2 0 0)), (0, .ref b)]) hx hb dL_law_1621 hl (k := 2) rfl rfl (by decide) rfl (fun ls hl => ?_)
  refine lv_goto (tgt := 28) hx hb dL_law_1624 (by decide) ?_
  refine W.widen (k := cells + 3) (n := slots + 18) (by omega) (by omega) ?_
  exact hrc _ _ _ _ _ _ _ hk hP hS (lv_sub hl [0, 3, 4, 5, 6, 7] rfl)
set_option maxHeartbeats 4000000 in
set_option maxRecDepth 100000 in
theorem law_C9 (hfl : l.stackTraces = false) (hZ : wD Z) (hx : p.tables.exec = Jvm.exec) (hb : c.code = code) (hml : c.maxLocals = 9) (hown : s.vm.findClass RL = some m.cls) (hts : ∀ w ∈ lw_all, w.before #[Value.ref b] s = true) (hE : EV (wA Z s.heap.size) s) (hK : wK Z s) (hX : va_X b L xs s s.heap) (hbl : b < s.heap.size) (hbA : ¬ wA Z s.heap.size b) {rc : Int32 → SS → SS → SS → Option Unit} {cells slots : Nat} (hcc : cells + 3 ≤ 603072) (hss : slots + 18 ≤ 7223402) (hrc : ∀ (ix : Int32) (X M O : SS) (H : Heap) (locs : List Loc) (ls : Array Slot), rc ix X M O = some () → wP Z (X, M, O) H → va_S (wA Z s.heap.size) s.heap H locs → lv_has ls 9 [(5, .int ix), (4, .ref (Z.2.2 57 0)), (3, .ref (Z.2.2 56 0)), (2, .ref (Z.2.2 26 0)), (1, .ref (Z.2.2 0 0)), (0, .ref b)] → W p l e room_1 s m #[Value.ref b] below meth c H locs (cells + 3) (slots + 18) Q (F0 m 28 ls [])) (ix : Int32) (X M O : SS) (H : Heap) (locs : List Loc) (ls : Array Slot) (hk : f_law_C9 xs L ix X M O rc = some ()) (hP : wP Z (X, M, O) H) (hS : va_S (wA Z s.heap.size) s.heap H locs) (hl : lv_has ls 9 [(5, .int ix), (4, .ref (Z.2.2 57 0)), (3, .ref (Z.2.2 56 0)), (2, .ref (Z.2.2 26 0)), (1, .ref (Z.2.2 0 0)), (0, .ref b)]) : W p l e room_1 s m #[Value.ref b] below meth c H locs cells slots Q (F0 m 528 ls []) := by
  unfold f_law_C9 at hk
  refine lv_aload_n hx hb dL_law_528 rfl (lv_at hl 4 rfl) ?_
  refine lv_aload_n hx hb dL_law_529 rfl (lv_at hl 2 rfl) ?_
  obtain ⟨O2, v1, hf3, hk⟩ := b1_s hk
  refine wc_iSX0 (rest := []) (As := [.ref (Z.2.2 0 0), .ref (Z.2.2 56 0)]) ⟨hx, hb, hml, hown, hts⟩ (fun sz => k_L_done l hfl Z hZ X M O O2 v1 hf3 sz) (cw_RL_192 (args := _) (s := s) hts (Nat.le_of_ble_eq_true rfl) (Nat.le_of_ble_eq_true rfl)) hE hP hK hS  rfl hl.1 rfl (Nat.le_of_ble_eq_true rfl) dL_law_530 ⟨by show _ ≤ 603072; omega, by show _ ≤ 7223402; omega⟩ (fun H locs hP hS => ?_)
  refine lv_istore (lv' := [(6, .int v1), (5, .int ix), (4, .ref (Z.2.2 57 0)), (3, .ref (Z.2.2 56 0)), (2, .ref (Z.2.2 26 0)), (1, .ref (Z.2.2 0 0)), (0, .ref b)]) hx hb dL_law_533 hl (by decide) rfl (fun ls hl => ?_)
  refine lv_aload_n hx hb dL_law_535 rfl (lv_at hl 4 rfl) ?_
  obtain ⟨M5, v4, hf6, hk⟩ := b1_s hk
  refine wc_iV0 (rest := []) (As := []) ⟨hx, hb, hml, hown, hts⟩ (fun sz => k_X7_done l hfl Z hZ X M O2 M5 v4 hf6 sz) (cw_RL_195 (args := _) (s := s) hts (Nat.le_of_ble_eq_true rfl) (Nat.le_of_ble_eq_true rfl)) hE hP hK hS (rv_26 hK hP (by decide)) rfl hl.1 rfl (Nat.le_of_ble_eq_true rfl) dL_law_536 ⟨by show _ ≤ 603072; omega, by show _ ≤ 7223402; omega⟩ (fun H locs hP hS => ?_)
  refine lv_istore (lv' := [(7, .int v4), (6, .int v1), (5, .int ix), (4, .ref (Z.2.2 57 0)), (3, .ref (Z.2.2 56 0)), (2, .ref (Z.2.2 26 0)), (1, .ref (Z.2.2 0 0)), (0, .ref b)]) hx hb dL_law_539 hl (by decide) rfl (fun ls hl => ?_)
  refine lv_goto (tgt := 1621) hx hb dL_law_541 (by decide) ?_
  refine lv_iinc (v := (ix + (4 : Int32))) (lv' := [(5, .int (ix + (4 : Int32))), (7, .int v4), (6, .int v1), (4, .ref (Z.2.2 57 0)), (3, .ref (Z.2.2 56 0)), (2, .ref (Z.2.2 26 0)), (1, .ref (Z.2.2 0 0)), (0, .ref b)]) hx hb dL_law_1621 hl (k := 2) rfl rfl (by decide) rfl (fun ls hl => ?_)
  refine lv_goto (tgt := 28) hx hb dL_law_1624 (by decide) ?_
  refine W.widen (k := cells + 3) (n := slots + 18) (by omega) (by omega) ?_
  exact hrc _ _ _ _ _ _ _ hk hP hS (lv_sub hl [0, 3, 4, 5, 6, 7] rfl)
set_option maxHeartbeats 4000000 in
set_option maxRecDepth 100000 in
theorem law_C10 (hfl : l.stackTraces = false) (hZ : wD Z) (hx : p.tables.exec = Jvm.exec) (hb : c.code = code) (hml : c.maxLocals = 9) (hown : s.vm.findClass RL = some m.cls) (hts : ∀ w ∈ lw_all, w.before #[Value.ref b] s = true) (hE : EV (wA Z s.heap.size) s) (hK : wK Z s) (hX : va_X b L xs s s.heap) (hbl : b < s.heap.size) (hbA : ¬ wA Z s.heap.size b) {rc : Int32 → SS → SS → SS → Option Unit} {cells slots : Nat} (hcc : cells + 3 ≤ 603072) (hss : slots + 18 ≤ 7223402) (hrc : ∀ (ix : Int32) (X M O : SS) (H : Heap) (locs : List Loc) (ls : Array Slot), rc ix X M O = some () → wP Z (X, M, O) H → va_S (wA Z s.heap.size) s.heap H locs → lv_has ls 9 [(5, .int ix), (4, .ref (Z.2.2 57 0)), (3, .ref (Z.2.2 56 0)), (2, .ref (Z.2.2 26 0)), (1, .ref (Z.2.2 0 0)), (0, .ref b)] → W p l e room_1 s m #[Value.ref b] below meth c H locs (cells + 3) (slots + 18) Q (F0 m 28 ls [])) (ix : Int32) (X M O : SS) (H : Heap) (locs : List Loc) (ls : Array Slot) (hk : f_law_C10 xs L ix X M O rc = some ()) (hP : wP Z (X, M, O) H) (hS : va_S (wA Z s.heap.size) s.heap H locs) (hl : lv_has ls 9 [(5, .int ix), (4, .ref (Z.2.2 57 0)), (3, .ref (Z.2.2 56 0)), (2, .ref (Z.2.2 26 0)), (1, .ref (Z.2.2 0 0)), (0, .ref b)]) : W p l e room_1 s m #[Value.ref b] below meth c H locs cells slots Q (F0 m 544 ls []) := by
  unfold f_law_C10 at hk
  refine lv_aload_n hx hb dL_law_544 rfl (lv_at hl 4 rfl) ?_
  refine lv_aload_n hx hb dL_law_545 rfl (lv_at hl 2 rfl) ?_
  obtain ⟨O2, v1, hf3, hk⟩ := b1_s hk
  refine wc_iSX0 (rest := []) (As := [.ref (Z.2.2 0 0), .ref (Z.2.2 56 0)]) ⟨hx, hb, hml, hown, hts⟩ (fun sz => k_L_outputs l hfl Z hZ X M O O2 v1 hf3 sz) (cw_RL_196 (args := _) (s := s) hts (Nat.le_of_ble_eq_true rfl) (Nat.le_of_ble_eq_true rfl)) hE hP hK hS  rfl hl.1 rfl (Nat.le_of_ble_eq_true rfl) dL_law_546 ⟨by show _ ≤ 603072; omega, by show _ ≤ 7223402; omega⟩ (fun H locs hP hS => ?_)
  refine lv_istore (lv' := [(6, .int v1), (5, .int ix), (4, .ref (Z.2.2 57 0)), (3, .ref (Z.2.2 56 0)), (2, .ref (Z.2.2 26 0)), (1, .ref (Z.2.2 0 0)), (0, .ref b)]) hx hb dL_law_549 hl (by decide) rfl (fun ls hl => ?_)
  refine lv_aload_n hx hb dL_law_551 rfl (lv_at hl 4 rfl) ?_
  obtain ⟨M5, v4, hf6, hk⟩ := b1_s hk
  refine wc_iV0 (rest := []) (As := []) ⟨hx, hb, hml, hown, hts⟩ (fun sz => k_X7_outputs l hfl Z hZ X M O2 M5 v4 hf6 sz) (cw_RL_198 (args := _) (s := s) hts (Nat.le_of_ble_eq_true rfl) (Nat.le_of_ble_eq_true rfl)) hE hP hK hS (rv_26 hK hP (by decide)) rfl hl.1 rfl (Nat.le_of_ble_eq_true rfl) dL_law_552 ⟨by show _ ≤ 603072; omega, by show _ ≤ 7223402; omega⟩ (fun H locs hP hS => ?_)
  refine lv_istore (lv' := [(7, .int v4), (6, .int v1), (5, .int ix), (4, .ref (Z.2.2 57 0)), (3, .ref (Z.2.2 56 0)), (2, .ref (Z.2.2 26 0)), (1, .ref (Z.2.2 0 0)), (0, .ref b)]) hx hb dL_law_555 hl (by decide) rfl (fun ls hl => ?_)
  refine lv_goto (tgt := 1621) hx hb dL_law_557 (by decide) ?_
  refine lv_iinc (v := (ix + (4 : Int32))) (lv' := [(5, .int (ix + (4 : Int32))), (7, .int v4), (6, .int v1), (4, .ref (Z.2.2 57 0)), (3, .ref (Z.2.2 56 0)), (2, .ref (Z.2.2 26 0)), (1, .ref (Z.2.2 0 0)), (0, .ref b)]) hx hb dL_law_1621 hl (k := 2) rfl rfl (by decide) rfl (fun ls hl => ?_)
  refine lv_goto (tgt := 28) hx hb dL_law_1624 (by decide) ?_
  refine W.widen (k := cells + 3) (n := slots + 18) (by omega) (by omega) ?_
  exact hrc _ _ _ _ _ _ _ hk hP hS (lv_sub hl [0, 3, 4, 5, 6, 7] rfl)
set_option maxHeartbeats 4000000 in
set_option maxRecDepth 100000 in
theorem law_C11 (hfl : l.stackTraces = false) (hZ : wD Z) (hx : p.tables.exec = Jvm.exec) (hb : c.code = code) (hml : c.maxLocals = 9) (hown : s.vm.findClass RL = some m.cls) (hts : ∀ w ∈ lw_all, w.before #[Value.ref b] s = true) (hE : EV (wA Z s.heap.size) s) (hK : wK Z s) (hX : va_X b L xs s s.heap) (hbl : b < s.heap.size) (hbA : ¬ wA Z s.heap.size b) {rc : Int32 → SS → SS → SS → Option Unit} {cells slots : Nat} (hcc : cells + 3 ≤ 603072) (hss : slots + 18 ≤ 7223402) (hrc : ∀ (ix : Int32) (X M O : SS) (H : Heap) (locs : List Loc) (ls : Array Slot), rc ix X M O = some () → wP Z (X, M, O) H → va_S (wA Z s.heap.size) s.heap H locs → lv_has ls 9 [(5, .int ix), (4, .ref (Z.2.2 57 0)), (3, .ref (Z.2.2 56 0)), (2, .ref (Z.2.2 26 0)), (1, .ref (Z.2.2 0 0)), (0, .ref b)] → W p l e room_1 s m #[Value.ref b] below meth c H locs (cells + 3) (slots + 18) Q (F0 m 28 ls [])) (ix : Int32) (X M O : SS) (H : Heap) (locs : List Loc) (ls : Array Slot) (hk : f_law_C11 xs L ix X M O rc = some ()) (hP : wP Z (X, M, O) H) (hS : va_S (wA Z s.heap.size) s.heap H locs) (hl : lv_has ls 9 [(5, .int ix), (4, .ref (Z.2.2 57 0)), (3, .ref (Z.2.2 56 0)), (2, .ref (Z.2.2 26 0)), (1, .ref (Z.2.2 0 0)), (0, .ref b)]) : W p l e room_1 s m #[Value.ref b] below meth c H locs cells slots Q (F0 m 560 ls []) := by
  unfold f_law_C11 at hk
  refine lv_aload_n hx hb dL_law_560 rfl (lv_at hl 4 rfl) ?_
  refine lv_aload_n hx hb dL_law_561 rfl (lv_at hl 5 rfl) ?_
  refine lv_iload hx hb dL_law_562 (lv_at hl 0 rfl) ?_
  refine lv_iconst (v := (1 : Int32)) hx hb dL_law_564 (by decide) ?_
  refine lv_iadd hx hb dL_law_565 ?_
  obtain ⟨hg1, hk⟩ := gd_s hk
  refine va_sld hx hb hX hbl hbA hS hg1 dL_law_566 ?_
  refine lv_aload_n hx hb dL_law_567 rfl (lv_at hl 2 rfl) ?_
  obtain ⟨O3, v2, hf4, hk⟩ := b1_s hk
  refine wc_iSX0 (rest := []) (As := [.ref (Z.2.2 0 0), .int (xs ((ix + (1 : Int32))).toNatClampNeg), .ref (Z.2.2 56 0)]) ⟨hx, hb, hml, hown, hts⟩ (fun sz => k_L_output l hfl Z hZ X M O (xs ((ix + (1 : Int32))).toNatClampNeg) O3 v2 hf4 sz) (cw_RL_199 (args := _) (s := s) hts (Nat.le_of_ble_eq_true rfl) (Nat.le_of_ble_eq_true rfl)) hE hP hK hS  rfl hl.1 rfl (Nat.le_of_ble_eq_true rfl) dL_law_568 ⟨by show _ ≤ 603072; omega, by show _ ≤ 7223402; omega⟩ (fun H locs hP hS => ?_)
  refine lv_istore (lv' := [(6, .int v2), (5, .int ix), (4, .ref (Z.2.2 57 0)), (3, .ref (Z.2.2 56 0)), (2, .ref (Z.2.2 26 0)), (1, .ref (Z.2.2 0 0)), (0, .ref b)]) hx hb dL_law_571 hl (by decide) rfl (fun ls hl => ?_)
  refine lv_aload_n hx hb dL_law_573 rfl (lv_at hl 4 rfl) ?_
  refine lv_aload_n hx hb dL_law_574 rfl (lv_at hl 6 rfl) ?_
  refine lv_iload hx hb dL_law_575 (lv_at hl 1 rfl) ?_
  refine lv_iconst (v := (1 : Int32)) hx hb dL_law_577 (by decide) ?_
  refine lv_iadd hx hb dL_law_578 ?_
  obtain ⟨hg5, hk⟩ := gd_s hk
  refine va_sld hx hb hX hbl hbA hS hg5 dL_law_579 ?_
  obtain ⟨M7, v6, hf8, hk⟩ := b1_s hk
  refine wc_iV0 (rest := []) (As := [.int (xs ((ix + (1 : Int32))).toNatClampNeg)]) ⟨hx, hb, hml, hown, hts⟩ (fun sz => k_X7_output l hfl Z hZ X M O3 (xs ((ix + (1 : Int32))).toNatClampNeg) M7 v6 hf8 sz) (cw_RL_201 (args := _) (s := s) hts (Nat.le_of_ble_eq_true rfl) (Nat.le_of_ble_eq_true rfl)) hE hP hK hS (rv_26 hK hP (by decide)) rfl hl.1 rfl (Nat.le_of_ble_eq_true rfl) dL_law_580 ⟨by show _ ≤ 603072; omega, by show _ ≤ 7223402; omega⟩ (fun H locs hP hS => ?_)
  refine lv_istore (lv' := [(7, .int v6), (6, .int v2), (5, .int ix), (4, .ref (Z.2.2 57 0)), (3, .ref (Z.2.2 56 0)), (2, .ref (Z.2.2 26 0)), (1, .ref (Z.2.2 0 0)), (0, .ref b)]) hx hb dL_law_583 hl (by decide) rfl (fun ls hl => ?_)
  refine lv_goto (tgt := 1621) hx hb dL_law_585 (by decide) ?_
  refine lv_iinc (v := (ix + (4 : Int32))) (lv' := [(5, .int (ix + (4 : Int32))), (7, .int v6), (6, .int v2), (4, .ref (Z.2.2 57 0)), (3, .ref (Z.2.2 56 0)), (2, .ref (Z.2.2 26 0)), (1, .ref (Z.2.2 0 0)), (0, .ref b)]) hx hb dL_law_1621 hl (k := 2) rfl rfl (by decide) rfl (fun ls hl => ?_)
  refine lv_goto (tgt := 28) hx hb dL_law_1624 (by decide) ?_
  refine W.widen (k := cells + 3) (n := slots + 18) (by omega) (by omega) ?_
  exact hrc _ _ _ _ _ _ _ hk hP hS (lv_sub hl [0, 3, 4, 5, 6, 7] rfl)
set_option maxHeartbeats 4000000 in
set_option maxRecDepth 100000 in
theorem law_C12 (hfl : l.stackTraces = false) (hZ : wD Z) (hx : p.tables.exec = Jvm.exec) (hb : c.code = code) (hml : c.maxLocals = 9) (hown : s.vm.findClass RL = some m.cls) (hts : ∀ w ∈ lw_all, w.before #[Value.ref b] s = true) (hE : EV (wA Z s.heap.size) s) (hK : wK Z s) (hX : va_X b L xs s s.heap) (hbl : b < s.heap.size) (hbA : ¬ wA Z s.heap.size b) {rc : Int32 → SS → SS → SS → Option Unit} {cells slots : Nat} (hcc : cells + 3 ≤ 603072) (hss : slots + 18 ≤ 7223402) (hrc : ∀ (ix : Int32) (X M O : SS) (H : Heap) (locs : List Loc) (ls : Array Slot), rc ix X M O = some () → wP Z (X, M, O) H → va_S (wA Z s.heap.size) s.heap H locs → lv_has ls 9 [(5, .int ix), (4, .ref (Z.2.2 57 0)), (3, .ref (Z.2.2 56 0)), (2, .ref (Z.2.2 26 0)), (1, .ref (Z.2.2 0 0)), (0, .ref b)] → W p l e room_1 s m #[Value.ref b] below meth c H locs (cells + 3) (slots + 18) Q (F0 m 28 ls [])) (ix : Int32) (X M O : SS) (H : Heap) (locs : List Loc) (ls : Array Slot) (hk : f_law_C12 xs L ix X M O rc = some ()) (hP : wP Z (X, M, O) H) (hS : va_S (wA Z s.heap.size) s.heap H locs) (hl : lv_has ls 9 [(5, .int ix), (4, .ref (Z.2.2 57 0)), (3, .ref (Z.2.2 56 0)), (2, .ref (Z.2.2 26 0)), (1, .ref (Z.2.2 0 0)), (0, .ref b)]) : W p l e room_1 s m #[Value.ref b] below meth c H locs cells slots Q (F0 m 588 ls []) := by
  unfold f_law_C12 at hk
  refine lv_aload_n hx hb dL_law_588 rfl (lv_at hl 4 rfl) ?_
  refine lv_aload_n hx hb dL_law_589 rfl (lv_at hl 2 rfl) ?_
  obtain ⟨O2, v1, hf3, hk⟩ := b1_s hk
  refine wc_iSX0 (rest := []) (As := [.ref (Z.2.2 0 0), .ref (Z.2.2 56 0)]) ⟨hx, hb, hml, hown, hts⟩ (fun sz => k_L_depth l hfl Z hZ X M O O2 v1 hf3 sz) (cw_RL_202 (args := _) (s := s) hts (Nat.le_of_ble_eq_true rfl) (Nat.le_of_ble_eq_true rfl)) hE hP hK hS  rfl hl.1 rfl (Nat.le_of_ble_eq_true rfl) dL_law_590 ⟨by show _ ≤ 603072; omega, by show _ ≤ 7223402; omega⟩ (fun H locs hP hS => ?_)
  refine lv_istore (lv' := [(6, .int v1), (5, .int ix), (4, .ref (Z.2.2 57 0)), (3, .ref (Z.2.2 56 0)), (2, .ref (Z.2.2 26 0)), (1, .ref (Z.2.2 0 0)), (0, .ref b)]) hx hb dL_law_593 hl (by decide) rfl (fun ls hl => ?_)
  refine lv_aload_n hx hb dL_law_595 rfl (lv_at hl 4 rfl) ?_
  obtain ⟨M5, v4, hf6, hk⟩ := b1_s hk
  refine wc_iV0 (rest := []) (As := []) ⟨hx, hb, hml, hown, hts⟩ (fun sz => k_X7_depth l hfl Z hZ X M O2 M5 v4 hf6 sz) (cw_RL_204 (args := _) (s := s) hts (Nat.le_of_ble_eq_true rfl) (Nat.le_of_ble_eq_true rfl)) hE hP hK hS (rv_26 hK hP (by decide)) rfl hl.1 rfl (Nat.le_of_ble_eq_true rfl) dL_law_596 ⟨by show _ ≤ 603072; omega, by show _ ≤ 7223402; omega⟩ (fun H locs hP hS => ?_)
  refine lv_istore (lv' := [(7, .int v4), (6, .int v1), (5, .int ix), (4, .ref (Z.2.2 57 0)), (3, .ref (Z.2.2 56 0)), (2, .ref (Z.2.2 26 0)), (1, .ref (Z.2.2 0 0)), (0, .ref b)]) hx hb dL_law_599 hl (by decide) rfl (fun ls hl => ?_)
  refine lv_aload_n hx hb dL_law_601 rfl (lv_at hl 5 rfl) ?_
  obtain ⟨v7, hf8, hk⟩ := b0_s hk
  refine wc_iV0 (rest := []) (As := []) ⟨hx, hb, hml, hown, hts⟩ (fun sz => k_X7_thrown l hfl Z hZ X M5 O2 v7 hf8 sz) (cw_RL_205 (args := _) (s := s) hts (Nat.le_of_ble_eq_true rfl) (Nat.le_of_ble_eq_true rfl)) hE hP hK hS (rv_26 hK hP (by decide)) rfl hl.1 rfl (Nat.le_of_ble_eq_true rfl) dL_law_602 ⟨by show _ ≤ 603072; omega, by show _ ≤ 7223402; omega⟩ (fun H locs hP hS => ?_)
  refine lv_iload hx hb dL_law_605 (lv_at hl 1 rfl) ?_
  refine lv_icmp_eq (tgt := 612) hx hb dL_law_607 (by decide) (fun cz9 => ?_) (fun cz9 => ?_)
  · have hk := it_t cz9 hk
    refine lv_iload hx hb dL_law_612 (lv_at hl 1 rfl) ?_
    refine lv_if_ne (tgt := 629) hx hb dL_law_614 (by decide) (fun cz10 => ?_) (fun cz10 => ?_)
    · have hk := it_f cz10 hk
      refine lv_goto (tgt := 1621) hx hb dL_law_629 (by decide) ?_
      refine lv_iinc (v := (ix + (4 : Int32))) (lv' := [(5, .int (ix + (4 : Int32))), (7, .int v4), (6, .int v1), (4, .ref (Z.2.2 57 0)), (3, .ref (Z.2.2 56 0)), (2, .ref (Z.2.2 26 0)), (1, .ref (Z.2.2 0 0)), (0, .ref b)]) hx hb dL_law_1621 hl (k := 2) rfl rfl (by decide) rfl (fun ls hl => ?_)
      refine lv_goto (tgt := 28) hx hb dL_law_1624 (by decide) ?_
      refine W.widen (k := cells + 3) (n := slots + 18) (by omega) (by omega) ?_
      exact hrc _ _ _ _ _ _ _ hk hP hS (lv_sub hl [0, 3, 4, 5, 6, 7] rfl)
    · have hk := it_t cz10 hk
      refine lv_aload_n hx hb dL_law_617 rfl (lv_at hl 4 rfl) ?_
      refine lv_iconst (v := (0 : Int32)) hx hb dL_law_618 (by decide) ?_
      refine wa_laload_56 hx hb hK hP (by decide) (by unfold vp_in; decide) dL_law_619 ?_
      refine lv_iload hx hb dL_law_620 (lv_at hl 0 rfl) ?_
      refine lv_i2l (v := (v4).toInt64) hx hb dL_law_622 rfl ?_
      refine W.lcmp hx hb dL_law_623 ?_
      refine lv_if_eq (tgt := 629) hx hb dL_law_624 (by decide) (fun cz11 => ?_) (fun cz11 => ?_)
      · have hk := it_t cz11 hk
        refine lv_goto (tgt := 1621) hx hb dL_law_629 (by decide) ?_
        refine lv_iinc (v := (ix + (4 : Int32))) (lv' := [(5, .int (ix + (4 : Int32))), (7, .int v4), (6, .int v1), (4, .ref (Z.2.2 57 0)), (3, .ref (Z.2.2 56 0)), (2, .ref (Z.2.2 26 0)), (1, .ref (Z.2.2 0 0)), (0, .ref b)]) hx hb dL_law_1621 hl (k := 2) rfl rfl (by decide) rfl (fun ls hl => ?_)
        refine lv_goto (tgt := 28) hx hb dL_law_1624 (by decide) ?_
        refine W.widen (k := cells + 3) (n := slots + 18) (by omega) (by omega) ?_
        exact hrc _ _ _ _ _ _ _ hk hP hS (lv_sub hl [0, 3, 4, 5, 6, 7] rfl)
      · have hk := it_f cz11 hk
        refine lv_iconst (v := (0 : Int32)) hx hb dL_law_627 (by decide) ?_
        exact nomatch (show none = some _ from hk)
  · have hk := it_f cz9 hk
    refine lv_iconst (v := (0 : Int32)) hx hb dL_law_610 (by decide) ?_
    exact nomatch (show none = some _ from hk)
set_option maxHeartbeats 4000000 in
set_option maxRecDepth 100000 in
theorem law_C13 (hfl : l.stackTraces = false) (hZ : wD Z) (hx : p.tables.exec = Jvm.exec) (hb : c.code = code) (hml : c.maxLocals = 9) (hown : s.vm.findClass RL = some m.cls) (hts : ∀ w ∈ lw_all, w.before #[Value.ref b] s = true) (hE : EV (wA Z s.heap.size) s) (hK : wK Z s) (hX : va_X b L xs s s.heap) (hbl : b < s.heap.size) (hbA : ¬ wA Z s.heap.size b) {rc : Int32 → SS → SS → SS → Option Unit} {cells slots : Nat} (hcc : cells + 3 ≤ 603072) (hss : slots + 18 ≤ 7223402) (hrc : ∀ (ix : Int32) (X M O : SS) (H : Heap) (locs : List Loc) (ls : Array Slot), rc ix X M O = some () → wP Z (X, M, O) H → va_S (wA Z s.heap.size) s.heap H locs → lv_has ls 9 [(5, .int ix), (4, .ref (Z.2.2 57 0)), (3, .ref (Z.2.2 56 0)), (2, .ref (Z.2.2 26 0)), (1, .ref (Z.2.2 0 0)), (0, .ref b)] → W p l e room_1 s m #[Value.ref b] below meth c H locs (cells + 3) (slots + 18) Q (F0 m 28 ls [])) (ix : Int32) (X M O : SS) (H : Heap) (locs : List Loc) (ls : Array Slot) (hk : f_law_C13 xs L ix X M O rc = some ()) (hP : wP Z (X, M, O) H) (hS : va_S (wA Z s.heap.size) s.heap H locs) (hl : lv_has ls 9 [(5, .int ix), (4, .ref (Z.2.2 57 0)), (3, .ref (Z.2.2 56 0)), (2, .ref (Z.2.2 26 0)), (1, .ref (Z.2.2 0 0)), (0, .ref b)]) : W p l e room_1 s m #[Value.ref b] below meth c H locs cells slots Q (F0 m 632 ls []) := by
  unfold f_law_C13 at hk
  refine lv_aload_n hx hb dL_law_632 rfl (lv_at hl 4 rfl) ?_
  refine lv_aload_n hx hb dL_law_633 rfl (lv_at hl 2 rfl) ?_
  obtain ⟨X2, O3, v1, hf4, hk⟩ := b2_s hk
  refine wc_iSX0 (rest := []) (As := [.ref (Z.2.2 0 0), .ref (Z.2.2 56 0)]) ⟨hx, hb, hml, hown, hts⟩ (fun sz => k_L_member l hfl Z hZ X M O X2 O3 v1 hf4 sz) (cw_RL_208 (args := _) (s := s) hts (Nat.le_of_ble_eq_true rfl) (Nat.le_of_ble_eq_true rfl)) hE hP hK hS  rfl hl.1 rfl (Nat.le_of_ble_eq_true rfl) dL_law_634 ⟨by show _ ≤ 603072; omega, by show _ ≤ 7223402; omega⟩ (fun H locs hP hS => ?_)
  refine lv_istore (lv' := [(6, .int v1), (5, .int ix), (4, .ref (Z.2.2 57 0)), (3, .ref (Z.2.2 56 0)), (2, .ref (Z.2.2 26 0)), (1, .ref (Z.2.2 0 0)), (0, .ref b)]) hx hb dL_law_637 hl (by decide) rfl (fun ls hl => ?_)
  refine lv_aload_n hx hb dL_law_639 rfl (lv_at hl 4 rfl) ?_
  obtain ⟨M6, v5, hf7, hk⟩ := b1_s hk
  refine wc_iV0 (rest := []) (As := []) ⟨hx, hb, hml, hown, hts⟩ (fun sz => k_X7_member l hfl Z hZ X2 M O3 M6 v5 hf7 sz) (cw_RL_210 (args := _) (s := s) hts (Nat.le_of_ble_eq_true rfl) (Nat.le_of_ble_eq_true rfl)) hE hP hK hS (rv_26 hK hP (by decide)) rfl hl.1 rfl (Nat.le_of_ble_eq_true rfl) dL_law_640 ⟨by show _ ≤ 603072; omega, by show _ ≤ 7223402; omega⟩ (fun H locs hP hS => ?_)
  refine lv_istore (lv' := [(7, .int v5), (6, .int v1), (5, .int ix), (4, .ref (Z.2.2 57 0)), (3, .ref (Z.2.2 56 0)), (2, .ref (Z.2.2 26 0)), (1, .ref (Z.2.2 0 0)), (0, .ref b)]) hx hb dL_law_643 hl (by decide) rfl (fun ls hl => ?_)
  refine lv_goto (tgt := 1621) hx hb dL_law_645 (by decide) ?_
  refine lv_iinc (v := (ix + (4 : Int32))) (lv' := [(5, .int (ix + (4 : Int32))), (7, .int v5), (6, .int v1), (4, .ref (Z.2.2 57 0)), (3, .ref (Z.2.2 56 0)), (2, .ref (Z.2.2 26 0)), (1, .ref (Z.2.2 0 0)), (0, .ref b)]) hx hb dL_law_1621 hl (k := 2) rfl rfl (by decide) rfl (fun ls hl => ?_)
  refine lv_goto (tgt := 28) hx hb dL_law_1624 (by decide) ?_
  refine W.widen (k := cells + 3) (n := slots + 18) (by omega) (by omega) ?_
  exact hrc _ _ _ _ _ _ _ hk hP hS (lv_sub hl [0, 3, 4, 5, 6, 7] rfl)
set_option maxHeartbeats 4000000 in
set_option maxRecDepth 100000 in
theorem law_C14 (hfl : l.stackTraces = false) (hZ : wD Z) (hx : p.tables.exec = Jvm.exec) (hb : c.code = code) (hml : c.maxLocals = 9) (hown : s.vm.findClass RL = some m.cls) (hts : ∀ w ∈ lw_all, w.before #[Value.ref b] s = true) (hE : EV (wA Z s.heap.size) s) (hK : wK Z s) (hX : va_X b L xs s s.heap) (hbl : b < s.heap.size) (hbA : ¬ wA Z s.heap.size b) {rc : Int32 → SS → SS → SS → Option Unit} {cells slots : Nat} (hcc : cells + 3 ≤ 603072) (hss : slots + 18 ≤ 7223402) (hrc : ∀ (ix : Int32) (X M O : SS) (H : Heap) (locs : List Loc) (ls : Array Slot), rc ix X M O = some () → wP Z (X, M, O) H → va_S (wA Z s.heap.size) s.heap H locs → lv_has ls 9 [(5, .int ix), (4, .ref (Z.2.2 57 0)), (3, .ref (Z.2.2 56 0)), (2, .ref (Z.2.2 26 0)), (1, .ref (Z.2.2 0 0)), (0, .ref b)] → W p l e room_1 s m #[Value.ref b] below meth c H locs (cells + 3) (slots + 18) Q (F0 m 28 ls [])) (ix : Int32) (X M O : SS) (H : Heap) (locs : List Loc) (ls : Array Slot) (hk : f_law_C14 xs L ix X M O rc = some ()) (hP : wP Z (X, M, O) H) (hS : va_S (wA Z s.heap.size) s.heap H locs) (hl : lv_has ls 9 [(5, .int ix), (4, .ref (Z.2.2 57 0)), (3, .ref (Z.2.2 56 0)), (2, .ref (Z.2.2 26 0)), (1, .ref (Z.2.2 0 0)), (0, .ref b)]) : W p l e room_1 s m #[Value.ref b] below meth c H locs cells slots Q (F0 m 648 ls []) := by
  unfold f_law_C14 at hk
  refine lv_aload_n hx hb dL_law_648 rfl (lv_at hl 4 rfl) ?_
  refine lv_aload_n hx hb dL_law_649 rfl (lv_at hl 5 rfl) ?_
  refine lv_iload hx hb dL_law_650 (lv_at hl 0 rfl) ?_
  refine lv_iconst (v := (1 : Int32)) hx hb dL_law_652 (by decide) ?_
  refine lv_iadd hx hb dL_law_653 ?_
  obtain ⟨hg1, hk⟩ := gd_s hk
  refine va_sld hx hb hX hbl hbA hS hg1 dL_law_654 ?_
  refine lv_aload_n hx hb dL_law_655 rfl (lv_at hl 5 rfl) ?_
  refine lv_iload hx hb dL_law_656 (lv_at hl 0 rfl) ?_
  refine lv_iconst (v := (2 : Int32)) hx hb dL_law_658 (by decide) ?_
  refine lv_iadd hx hb dL_law_659 ?_
  obtain ⟨hg2, hk⟩ := gd_s hk
  refine va_sld hx hb hX hbl hbA hS hg2 dL_law_660 ?_
  refine lv_aload_n hx hb dL_law_661 rfl (lv_at hl 2 rfl) ?_
  obtain ⟨X4, O5, v3, hf6, hk⟩ := b2_s hk
  refine wc_iSX0 (rest := []) (As := [.ref (Z.2.2 0 0), .int (xs ((ix + (1 : Int32))).toNatClampNeg), .int (xs ((ix + (2 : Int32))).toNatClampNeg), .ref (Z.2.2 56 0)]) ⟨hx, hb, hml, hown, hts⟩ (fun sz => k_L_submit l hfl Z hZ X M O (xs ((ix + (1 : Int32))).toNatClampNeg) (xs ((ix + (2 : Int32))).toNatClampNeg) X4 O5 v3 hf6 sz) (cw_RL_211 (args := _) (s := s) hts (Nat.le_of_ble_eq_true rfl) (Nat.le_of_ble_eq_true rfl)) hE hP hK hS  rfl hl.1 rfl (Nat.le_of_ble_eq_true rfl) dL_law_662 ⟨by show _ ≤ 603072; omega, by show _ ≤ 7223402; omega⟩ (fun H locs hP hS => ?_)
  refine lv_istore (lv' := [(6, .int v3), (5, .int ix), (4, .ref (Z.2.2 57 0)), (3, .ref (Z.2.2 56 0)), (2, .ref (Z.2.2 26 0)), (1, .ref (Z.2.2 0 0)), (0, .ref b)]) hx hb dL_law_665 hl (by decide) rfl (fun ls hl => ?_)
  refine lv_aload_n hx hb dL_law_667 rfl (lv_at hl 4 rfl) ?_
  refine lv_aload_n hx hb dL_law_668 rfl (lv_at hl 6 rfl) ?_
  refine lv_iload hx hb dL_law_669 (lv_at hl 1 rfl) ?_
  refine lv_iconst (v := (1 : Int32)) hx hb dL_law_671 (by decide) ?_
  refine lv_iadd hx hb dL_law_672 ?_
  obtain ⟨hg7, hk⟩ := gd_s hk
  refine va_sld hx hb hX hbl hbA hS hg7 dL_law_673 ?_
  refine lv_aload_n hx hb dL_law_674 rfl (lv_at hl 6 rfl) ?_
  refine lv_iload hx hb dL_law_675 (lv_at hl 1 rfl) ?_
  refine lv_iconst (v := (2 : Int32)) hx hb dL_law_677 (by decide) ?_
  refine lv_iadd hx hb dL_law_678 ?_
  obtain ⟨hg8, hk⟩ := gd_s hk
  refine va_sld hx hb hX hbl hbA hS hg8 dL_law_679 ?_
  obtain ⟨M10, v9, hf11, hk⟩ := b1_s hk
  refine wc_iV0 (rest := []) (As := [.int (xs ((ix + (1 : Int32))).toNatClampNeg), .int (xs ((ix + (2 : Int32))).toNatClampNeg)]) ⟨hx, hb, hml, hown, hts⟩ (fun sz => k_X7_submit l hfl Z hZ X4 M O5 (xs ((ix + (1 : Int32))).toNatClampNeg) (xs ((ix + (2 : Int32))).toNatClampNeg) M10 v9 hf11 sz) (cw_RL_213 (args := _) (s := s) hts (Nat.le_of_ble_eq_true rfl) (Nat.le_of_ble_eq_true rfl)) hE hP hK hS (rv_26 hK hP (by decide)) rfl hl.1 rfl (Nat.le_of_ble_eq_true rfl) dL_law_680 ⟨by show _ ≤ 603072; omega, by show _ ≤ 7223402; omega⟩ (fun H locs hP hS => ?_)
  refine lv_istore (lv' := [(7, .int v9), (6, .int v3), (5, .int ix), (4, .ref (Z.2.2 57 0)), (3, .ref (Z.2.2 56 0)), (2, .ref (Z.2.2 26 0)), (1, .ref (Z.2.2 0 0)), (0, .ref b)]) hx hb dL_law_683 hl (by decide) rfl (fun ls hl => ?_)
  refine lv_goto (tgt := 1621) hx hb dL_law_685 (by decide) ?_
  refine lv_iinc (v := (ix + (4 : Int32))) (lv' := [(5, .int (ix + (4 : Int32))), (7, .int v9), (6, .int v3), (4, .ref (Z.2.2 57 0)), (3, .ref (Z.2.2 56 0)), (2, .ref (Z.2.2 26 0)), (1, .ref (Z.2.2 0 0)), (0, .ref b)]) hx hb dL_law_1621 hl (k := 2) rfl rfl (by decide) rfl (fun ls hl => ?_)
  refine lv_goto (tgt := 28) hx hb dL_law_1624 (by decide) ?_
  refine W.widen (k := cells + 3) (n := slots + 18) (by omega) (by omega) ?_
  exact hrc _ _ _ _ _ _ _ hk hP hS (lv_sub hl [0, 3, 4, 5, 6, 7] rfl)