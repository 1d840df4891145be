variable {p : Program} {l : Launch} {e : Env} {s : State} {m : MethodId} {below : List Frame} {meth : Method} {c : Code} {Q : State → Prop} {Z : ZT} {b L : Nat} {xs : Nat → Int32}
set_option maxHeartbeats 4000000 in
set_option maxRecDepth 100000 in
theorem law_C30 (hfl : l.stackTraces = false) (hZ : wD Z) (hx : p.tables.exec = Jvm.exec) (hb : c.code = code) (hml : c.maxLocals = 9) (hown : s.vm.findClass RL = some m.cls) (hts : ∀ w ∈ lw_all, w.before #[Value.ref b] s = true) (hE : EV (wA Z s.heap.size) s) (hK : wK Z s) (hX : va_X b L xs s s.heap) (hbl : b < s.heap.size) (hbA : ¬ wA Z s.heap.size b) {rc : Int32 → SS → SS → SS → Option Unit} {cells slots : Nat} (hcc : cells + 3 ≤ 603072) (hss : slots + 18 ≤ 7223402) (hrc : ∀ (ix : Int32) (X M O : SS) (H : Heap) (locs : List Loc) (ls : Array Slot), rc ix X M O = some () → wP Z (X, M, O) H → va_S (wA Z s.heap.size) s.heap H locs → lv_has ls 9 [(5, .int ix), (4, .ref (Z.2.2 57 0)), (3, .ref (Z.2.2 56 0)), (2, .ref (Z.2.2 26 0)), (1, .ref (Z.2.2 0 0)), (0, .ref b)] → W p l e room_1 s m #[Value.ref b] below meth c H locs (cells + 3) (slots + 18) Q (F0 m 28 ls [])) (ix : Int32) (X M O : SS) (H : Heap) (locs : List Loc) (ls : Array Slot) (hk : f_law_C30 xs L ix X M O rc = some ()) (hP : wP Z (X, M, O) H) (hS : va_S (wA Z s.heap.size) s.heap H locs) (hl : lv_has ls 9 [(5, .int ix), (4, .ref (Z.2.2 57 0)), (3, .ref (Z.2.2 56 0)), (2, .ref (Z.2.2 26 0)), (1, .ref (Z.2.2 0 0)), (0, .ref b)]) : W p l e room_1 s m #[Value.ref b] below meth c H locs cells slots Q (F0 m 1191 ls []) := by
  unfold f_law_C30 at hk
  refine lv_aload_n hx hb dL_law_1191 rfl (lv_at hl 4 rfl) ?_
  refine lv_aload_n hx hb dL_law_1192 rfl (lv_at hl 5 rfl) ?_
  refine lv_iload hx hb dL_law_1193 (lv_at hl 0 rfl) ?_
  refine lv_iconst (v := (1 : Int32)) hx hb dL_law_1195 (by decide) ?_
  refine lv_iadd hx hb dL_law_1196 ?_
  obtain ⟨hg1, hk⟩ := gd_s hk
  refine va_sld hx hb hX hbl hbA hS hg1 dL_law_1197 ?_
  refine lv_aload_n hx hb dL_law_1198 rfl (lv_at hl 5 rfl) ?_
  refine lv_iload hx hb dL_law_1199 (lv_at hl 0 rfl) ?_
  refine lv_iconst (v := (2 : Int32)) hx hb dL_law_1201 (by decide) ?_
  refine lv_iadd hx hb dL_law_1202 ?_
  obtain ⟨hg2, hk⟩ := gd_s hk
  refine va_sld hx hb hX hbl hbA hS hg2 dL_law_1203 ?_
  refine lv_aload_n hx hb dL_law_1204 rfl (lv_at hl 2 rfl) ?_
  obtain ⟨X4, O5, v3, hf6, hk⟩ := b2_s hk
  refine wc_iSX0 (rest := []) (As := [.ref (Z.2.2 0 0), .int (xs ((ix + (1 : Int32))).toNatClampNeg), .int (xs ((ix + (2 : Int32))).toNatClampNeg), .ref (Z.2.2 56 0)]) ⟨hx, hb, hml, hown, hts⟩ (fun sz => k_L_best l hfl Z hZ X M O (xs ((ix + (1 : Int32))).toNatClampNeg) (xs ((ix + (2 : Int32))).toNatClampNeg) X4 O5 v3 hf6 sz) (cw_RL_263 (args := _) (s := s) hts (Nat.le_of_ble_eq_true rfl) (Nat.le_of_ble_eq_true rfl)) hE hP hK hS  rfl hl.1 rfl (Nat.le_of_ble_eq_true rfl) dL_law_1205 ⟨by show _ ≤ 603072; omega, by show _ ≤ 7223402; omega⟩ (fun H locs hP hS => ?_)
  refine lv_istore (lv' := [(6, .int v3), (5, .int ix), (4, .ref (Z.2.2 57 0)), (3, .ref (Z.2.2 56 0)), (2, .ref (Z.2.2 26 0)), (1, .ref (Z.2.2 0 0)), (0, .ref b)]) hx hb dL_law_1208 hl (by decide) rfl (fun ls hl => ?_)
  refine lv_aload_n hx hb dL_law_1210 rfl (lv_at hl 4 rfl) ?_
  refine lv_aload_n hx hb dL_law_1211 rfl (lv_at hl 6 rfl) ?_
  refine lv_iload hx hb dL_law_1212 (lv_at hl 1 rfl) ?_
  refine lv_iconst (v := (1 : Int32)) hx hb dL_law_1214 (by decide) ?_
  refine lv_iadd hx hb dL_law_1215 ?_
  obtain ⟨hg7, hk⟩ := gd_s hk
  refine va_sld hx hb hX hbl hbA hS hg7 dL_law_1216 ?_
  refine lv_aload_n hx hb dL_law_1217 rfl (lv_at hl 6 rfl) ?_
  refine lv_iload hx hb dL_law_1218 (lv_at hl 1 rfl) ?_
  refine lv_iconst (v := (2 : Int32)) hx hb dL_law_1220 (by decide) ?_
  refine lv_iadd hx hb dL_law_1221 ?_
  obtain ⟨hg8, hk⟩ := gd_s hk
  refine va_sld hx hb hX hbl hbA hS hg8 dL_law_1222 ?_
  obtain ⟨M10, v9, hf11, hk⟩ := b1_s hk
  refine wc_iV0 (rest := []) (As := [.int (xs ((ix + (1 : Int32))).toNatClampNeg), .int (xs ((ix + (2 : Int32))).toNatClampNeg)]) ⟨hx, hb, hml, hown, hts⟩ (fun sz => k_X7_best l hfl Z hZ X4 M O5 (xs ((ix + (1 : Int32))).toNatClampNeg) (xs ((ix + (2 : Int32))).toNatClampNeg) M10 v9 hf11 sz) (cw_RL_265 (args := _) (s := s) hts (Nat.le_of_ble_eq_true rfl) (Nat.le_of_ble_eq_true rfl)) hE hP hK hS (rv_26 hK hP (by decide)) rfl hl.1 rfl (Nat.le_of_ble_eq_true rfl) dL_law_1223 ⟨by show _ ≤ 603072; omega, by show _ ≤ 7223402; omega⟩ (fun H locs hP hS => ?_)
  refine lv_istore (lv' := [(7, .int v9), (6, .int v3), (5, .int ix), (4, .ref (Z.2.2 57 0)), (3, .ref (Z.2.2 56 0)), (2, .ref (Z.2.2 26 0)), (1, .ref (Z.2.2 0 0)), (0, .ref b)]) hx hb dL_law_1226 hl (by decide) rfl (fun ls hl => ?_)
  refine lv_goto (tgt := 1620) hx hb dL_law_1228 (by decide) ?_
  refine lv_iinc (v := (ix + (4 : Int32))) (lv' := [(5, .int (ix + (4 : Int32))), (7, .int v9), (6, .int v3), (4, .ref (Z.2.2 57 0)), (3, .ref (Z.2.2 56 0)), (2, .ref (Z.2.2 26 0)), (1, .ref (Z.2.2 0 0)), (0, .ref b)]) hx hb dL_law_1620 hl (k := 2) rfl rfl (by decide) rfl (fun ls hl => ?_)
  refine lv_goto (tgt := 28) hx hb dL_law_1623 (by decide) ?_
  refine W.widen (k := cells + 3) (n := slots + 18) (by omega) (by omega) ?_
  exact hrc _ _ _ _ _ _ _ hk hP hS (lv_sub hl [0, 3, 4, 5, 6, 7] rfl)
set_option maxHeartbeats 4000000 in
set_option maxRecDepth 100000 in
theorem law_C31 (hfl : l.stackTraces = false) (hZ : wD Z) (hx : p.tables.exec = Jvm.exec) (hb : c.code = code) (hml : c.maxLocals = 9) (hown : s.vm.findClass RL = some m.cls) (hts : ∀ w ∈ lw_all, w.before #[Value.ref b] s = true) (hE : EV (wA Z s.heap.size) s) (hK : wK Z s) (hX : va_X b L xs s s.heap) (hbl : b < s.heap.size) (hbA : ¬ wA Z s.heap.size b) {rc : Int32 → SS → SS → SS → Option Unit} {cells slots : Nat} (hcc : cells + 3 ≤ 603072) (hss : slots + 18 ≤ 7223402) (hrc : ∀ (ix : Int32) (X M O : SS) (H : Heap) (locs : List Loc) (ls : Array Slot), rc ix X M O = some () → wP Z (X, M, O) H → va_S (wA Z s.heap.size) s.heap H locs → lv_has ls 9 [(5, .int ix), (4, .ref (Z.2.2 57 0)), (3, .ref (Z.2.2 56 0)), (2, .ref (Z.2.2 26 0)), (1, .ref (Z.2.2 0 0)), (0, .ref b)] → W p l e room_1 s m #[Value.ref b] below meth c H locs (cells + 3) (slots + 18) Q (F0 m 28 ls [])) (ix : Int32) (X M O : SS) (H : Heap) (locs : List Loc) (ls : Array Slot) (hk : f_law_C31 xs L ix X M O rc = some ()) (hP : wP Z (X, M, O) H) (hS : va_S (wA Z s.heap.size) s.heap H locs) (hl : lv_has ls 9 [(5, .int ix), (4, .ref (Z.2.2 57 0)), (3, .ref (Z.2.2 56 0)), (2, .ref (Z.2.2 26 0)), (1, .ref (Z.2.2 0 0)), (0, .ref b)]) : W p l e room_1 s m #[Value.ref b] below meth c H locs cells slots Q (F0 m 1231 ls []) := by
  unfold f_law_C31 at hk
  refine lv_aload_n hx hb dL_law_1231 rfl (lv_at hl 4 rfl) ?_
  refine lv_aload_n hx hb dL_law_1232 rfl (lv_at hl 5 rfl) ?_
  refine lv_iload hx hb dL_law_1233 (lv_at hl 0 rfl) ?_
  refine lv_iconst (v := (1 : Int32)) hx hb dL_law_1235 (by decide) ?_
  refine lv_iadd hx hb dL_law_1236 ?_
  obtain ⟨hg1, hk⟩ := gd_s hk
  refine va_sld hx hb hX hbl hbA hS hg1 dL_law_1237 ?_
  refine lv_aload hx hb dL_law_1238 (lv_at hl 1 rfl) ?_
  obtain ⟨X3, O4, v2, hf5, hk⟩ := b2_s hk
  refine wc_iSX0 (rest := []) (As := [.ref (Z.2.2 0 0), .int (xs ((ix + (1 : Int32))).toNatClampNeg), .ref (Z.2.2 57 0)]) ⟨hx, hb, hml, hown, hts⟩ (fun sz => k_L_points l hfl Z hZ X M O (xs ((ix + (1 : Int32))).toNatClampNeg) X3 O4 v2 hf5 sz) (cw_RL_266 (args := _) (s := s) hts (Nat.le_of_ble_eq_true rfl) (Nat.le_of_ble_eq_true rfl)) hE hP hK hS  rfl hl.1 rfl (Nat.le_of_ble_eq_true rfl) dL_law_1240 ⟨by show _ ≤ 603072; omega, by show _ ≤ 7223402; omega⟩ (fun H locs hP hS => ?_)
  refine lv_istore (lv' := [(6, .int v2), (5, .int ix), (4, .ref (Z.2.2 57 0)), (3, .ref (Z.2.2 56 0)), (2, .ref (Z.2.2 26 0)), (1, .ref (Z.2.2 0 0)), (0, .ref b)]) hx hb dL_law_1243 hl (by decide) rfl (fun ls hl => ?_)
  refine lv_aload_n hx hb dL_law_1245 rfl (lv_at hl 4 rfl) ?_
  refine lv_aload_n hx hb dL_law_1246 rfl (lv_at hl 6 rfl) ?_
  refine lv_iload hx hb dL_law_1247 (lv_at hl 1 rfl) ?_
  refine lv_iconst (v := (1 : Int32)) hx hb dL_law_1249 (by decide) ?_
  refine lv_iadd hx hb dL_law_1250 ?_
  obtain ⟨hg6, hk⟩ := gd_s hk
  refine va_sld hx hb hX hbl hbA hS hg6 dL_law_1251 ?_
  obtain ⟨M8, v7, hf9, hk⟩ := b1_s hk
  refine wc_fV0 (rest := []) (As := [.int (xs ((ix + (1 : Int32))).toNatClampNeg)]) ⟨hx, hb, hml, hown, hts⟩ (fun sz => k_X7_points l hfl Z hZ X3 M O4 (xs ((ix + (1 : Int32))).toNatClampNeg) M8 v7 hf9 sz) (cw_RL_269 (args := _) (s := s) hts (Nat.le_of_ble_eq_true rfl) (Nat.le_of_ble_eq_true rfl)) hE hP hK hS (rv_26 hK hP (by decide)) rfl hl.1 rfl (Nat.le_of_ble_eq_true rfl) dL_law_1252 ⟨by show _ ≤ 603072; omega, by show _ ≤ 7223402; omega⟩ (fun H locs hP hS => ?_)
  refine lv_fstore (lv' := [(7, .float v7), (6, .int v2), (5, .int ix), (4, .ref (Z.2.2 57 0)), (3, .ref (Z.2.2 56 0)), (2, .ref (Z.2.2 26 0)), (1, .ref (Z.2.2 0 0)), (0, .ref b)]) hx hb dL_law_1255 hl (by decide) rfl (fun ls hl => ?_)
  refine lv_goto (tgt := 1620) hx hb dL_law_1257 (by decide) ?_
  refine lv_iinc (v := (ix + (4 : Int32))) (lv' := [(5, .int (ix + (4 : Int32))), (7, .float v7), (6, .int v2), (4, .ref (Z.2.2 57 0)), (3, .ref (Z.2.2 56 0)), (2, .ref (Z.2.2 26 0)), (1, .ref (Z.2.2 0 0)), (0, .ref b)]) hx hb dL_law_1620 hl (k := 2) rfl rfl (by decide) rfl (fun ls hl => ?_)
  refine lv_goto (tgt := 28) hx hb dL_law_1623 (by decide) ?_
  refine W.widen (k := cells + 3) (n := slots + 18) (by omega) (by omega) ?_
  exact hrc _ _ _ _ _ _ _ hk hP hS (lv_sub hl [0, 3, 4, 5, 6, 7] rfl)
set_option maxHeartbeats 4000000 in
set_option maxRecDepth 100000 in
theorem law_C32 (hfl : l.stackTraces = false) (hZ : wD Z) (hx : p.tables.exec = Jvm.exec) (hb : c.code = code) (hml : c.maxLocals = 9) (hown : s.vm.findClass RL = some m.cls) (hts : ∀ w ∈ lw_all, w.before #[Value.ref b] s = true) (hE : EV (wA Z s.heap.size) s) (hK : wK Z s) (hX : va_X b L xs s s.heap) (hbl : b < s.heap.size) (hbA : ¬ wA Z s.heap.size b) {rc : Int32 → SS → SS → SS → Option Unit} {cells slots : Nat} (hcc : cells + 3 ≤ 603072) (hss : slots + 18 ≤ 7223402) (hrc : ∀ (ix : Int32) (X M O : SS) (H : Heap) (locs : List Loc) (ls : Array Slot), rc ix X M O = some () → wP Z (X, M, O) H → va_S (wA Z s.heap.size) s.heap H locs → lv_has ls 9 [(5, .int ix), (4, .ref (Z.2.2 57 0)), (3, .ref (Z.2.2 56 0)), (2, .ref (Z.2.2 26 0)), (1, .ref (Z.2.2 0 0)), (0, .ref b)] → W p l e room_1 s m #[Value.ref b] below meth c H locs (cells + 3) (slots + 18) Q (F0 m 28 ls [])) (ix : Int32) (X M O : SS) (H : Heap) (locs : List Loc) (ls : Array Slot) (hk : f_law_C32 xs L ix X M O rc = some ()) (hP : wP Z (X, M, O) H) (hS : va_S (wA Z s.heap.size) s.heap H locs) (hl : lv_has ls 9 [(5, .int ix), (4, .ref (Z.2.2 57 0)), (3, .ref (Z.2.2 56 0)), (2, .ref (Z.2.2 26 0)), (1, .ref (Z.2.2 0 0)), (0, .ref b)]) : W p l e room_1 s m #[Value.ref b] below meth c H locs cells slots Q (F0 m 1260 ls []) := by
  unfold f_law_C32 at hk
  refine lv_aload_n hx hb dL_law_1260 rfl (lv_at hl 4 rfl) ?_
  refine lv_aload_n hx hb dL_law_1261 rfl (lv_at hl 5 rfl) ?_
  refine lv_iload hx hb dL_law_1262 (lv_at hl 0 rfl) ?_
  refine lv_iconst (v := (1 : Int32)) hx hb dL_law_1264 (by decide) ?_
  refine lv_iadd hx hb dL_law_1265 ?_
  obtain ⟨hg1, hk⟩ := gd_s hk
  refine va_sld hx hb hX hbl hbA hS hg1 dL_law_1266 ?_
  refine lv_aload_n hx hb dL_law_1267 rfl (lv_at hl 2 rfl) ?_
  obtain ⟨X3, O4, v2, hf5, hk⟩ := b2_s hk
  refine wc_iSX0 (rest := []) (As := [.ref (Z.2.2 0 0), .int (xs ((ix + (1 : Int32))).toNatClampNeg), .ref (Z.2.2 56 0)]) ⟨hx, hb, hml, hown, hts⟩ (fun sz => k_L_belt l hfl Z hZ X M O (xs ((ix + (1 : Int32))).toNatClampNeg) X3 O4 v2 hf5 sz) (cw_RL_270 (args := _) (s := s) hts (Nat.le_of_ble_eq_true rfl) (Nat.le_of_ble_eq_true rfl)) hE hP hK hS  rfl hl.1 rfl (Nat.le_of_ble_eq_true rfl) dL_law_1268 ⟨by show _ ≤ 603072; omega, by show _ ≤ 7223402; omega⟩ (fun H locs hP hS => ?_)
  refine lv_istore (lv' := [(6, .int v2), (5, .int ix), (4, .ref (Z.2.2 57 0)), (3, .ref (Z.2.2 56 0)), (2, .ref (Z.2.2 26 0)), (1, .ref (Z.2.2 0 0)), (0, .ref b)]) hx hb dL_law_1271 hl (by decide) rfl (fun ls hl => ?_)
  refine lv_aload_n hx hb dL_law_1273 rfl (lv_at hl 4 rfl) ?_
  refine lv_aload_n hx hb dL_law_1274 rfl (lv_at hl 6 rfl) ?_
  refine lv_iload hx hb dL_law_1275 (lv_at hl 1 rfl) ?_
  refine lv_iconst (v := (1 : Int32)) hx hb dL_law_1277 (by decide) ?_
  refine lv_iadd hx hb dL_law_1278 ?_
  obtain ⟨hg6, hk⟩ := gd_s hk
  refine va_sld hx hb hX hbl hbA hS hg6 dL_law_1279 ?_
  obtain ⟨M8, v7, hf9, hk⟩ := b1_s hk
  refine wc_iV0 (rest := []) (As := [.int (xs ((ix + (1 : Int32))).toNatClampNeg)]) ⟨hx, hb, hml, hown, hts⟩ (fun sz => k_X7_belt l hfl Z hZ X3 M O4 (xs ((ix + (1 : Int32))).toNatClampNeg) M8 v7 hf9 sz) (cw_RL_272 (args := _) (s := s) hts (Nat.le_of_ble_eq_true rfl) (Nat.le_of_ble_eq_true rfl)) hE hP hK hS (rv_26 hK hP (by decide)) rfl hl.1 rfl (Nat.le_of_ble_eq_true rfl) dL_law_1280 ⟨by show _ ≤ 603072; omega, by show _ ≤ 7223402; omega⟩ (fun H locs hP hS => ?_)
  refine lv_istore (lv' := [(7, .int v7), (6, .int v2), (5, .int ix), (4, .ref (Z.2.2 57 0)), (3, .ref (Z.2.2 56 0)), (2, .ref (Z.2.2 26 0)), (1, .ref (Z.2.2 0 0)), (0, .ref b)]) hx hb dL_law_1283 hl (by decide) rfl (fun ls hl => ?_)
  refine lv_goto (tgt := 1620) hx hb dL_law_1285 (by decide) ?_
  refine lv_iinc (v := (ix + (4 : Int32))) (lv' := [(5, .int (ix + (4 : Int32))), (7, .int v7), (6, .int v2), (4, .ref (Z.2.2 57 0)), (3, .ref (Z.2.2 56 0)), (2, .ref (Z.2.2 26 0)), (1, .ref (Z.2.2 0 0)), (0, .ref b)]) hx hb dL_law_1620 hl (k := 2) rfl rfl (by decide) rfl (fun ls hl => ?_)
  refine lv_goto (tgt := 28) hx hb dL_law_1623 (by decide) ?_
  refine W.widen (k := cells + 3) (n := slots + 18) (by omega) (by omega) ?_
  exact hrc _ _ _ _ _ _ _ hk hP hS (lv_sub hl [0, 3, 4, 5, 6, 7] rfl)
set_option maxHeartbeats 4000000 in
set_option maxRecDepth 100000 in
theorem law_C33 (hfl : l.stackTraces = false) (hZ : wD Z) (hx : p.tables.exec = Jvm.exec) (hb : c.code = code) (hml : c.maxLocals = 9) (hown : s.vm.findClass RL = some m.cls) (hts : ∀ w ∈ lw_all, w.before #[Value.ref b] s = true) (hE : EV (wA Z s.heap.size) s) (hK : wK Z s) (hX : va_X b L xs s s.heap) (hbl : b < s.heap.size) (hbA : ¬ wA Z s.heap.size b) {rc : Int32 → SS → SS → SS → Option Unit} {cells slots : Nat} (hcc : cells + 3 ≤ 603072) (hss : slots + 18 ≤ 7223402) (hrc : ∀ (ix : Int32) (X M O : SS) (H : Heap) (locs : List Loc) (ls : Array Slot), rc ix X M O = some () → wP Z (X, M, O) H → va_S (wA Z s.heap.size) s.heap H locs → lv_has ls 9 [(5, .int ix), (4, .ref (Z.2.2 57 0)), (3, .ref (Z.2.2 56 0)), (2, .ref (Z.2.2 26 0)), (1, .ref (Z.2.2 0 0)), (0, .ref b)] → W p l e room_1 s m #[Value.ref b] below meth c H locs (cells + 3) (slots + 18) Q (F0 m 28 ls [])) (ix : Int32) (X M O : SS) (H : Heap) (locs : List Loc) (ls : Array Slot) (hk : f_law_C33 xs L ix X M O rc = some ()) (hP : wP Z (X, M, O) H) (hS : va_S (wA Z s.heap.size) s.heap H locs) (hl : lv_has ls 9 [(5, .int ix), (4, .ref (Z.2.2 57 0)), (3, .ref (Z.2.2 56 0)), (2, .ref (Z.2.2 26 0)), (1, .ref (Z.2.2 0 0)), (0, .ref b)]) : W p l e room_1 s m #[Value.ref b] below meth c H locs cells slots Q (F0 m 1288 ls []) := by
  unfold f_law_C33 at hk
  refine lv_aload_n hx hb dL_law_1288 rfl (lv_at hl 4 rfl) ?_
  refine lv_aload_n hx hb dL_law_1289 rfl (lv_at hl 5 rfl) ?_
  refine lv_iload hx hb dL_law_1290 (lv_at hl 0 rfl) ?_
  refine lv_iconst (v := (1 : Int32)) hx hb dL_law_1292 (by decide) ?_
  refine lv_iadd hx hb dL_law_1293 ?_
  obtain ⟨hg1, hk⟩ := gd_s hk
  refine va_sld hx hb hX hbl hbA hS hg1 dL_law_1294 ?_
  refine lv_aload_n hx hb dL_law_1295 rfl (lv_at hl 2 rfl) ?_
  obtain ⟨O3, v2, hf4, hk⟩ := b1_s hk
  refine wc_iSX0 (rest := []) (As := [.ref (Z.2.2 0 0), .int (xs ((ix + (1 : Int32))).toNatClampNeg), .ref (Z.2.2 56 0)]) ⟨hx, hb, hml, hown, hts⟩ (fun sz => k_L_honour l hfl Z hZ X M O (xs ((ix + (1 : Int32))).toNatClampNeg) O3 v2 hf4 sz) (cw_RL_273 (args := _) (s := s) hts (Nat.le_of_ble_eq_true rfl) (Nat.le_of_ble_eq_true rfl)) hE hP hK hS  rfl hl.1 rfl (Nat.le_of_ble_eq_true rfl) dL_law_1296 ⟨by show _ ≤ 603072; omega, by show _ ≤ 7223402; omega⟩ (fun H locs hP hS => ?_)
  refine lv_istore (lv' := [(6, .int v2), (5, .int ix), (4, .ref (Z.2.2 57 0)), (3, .ref (Z.2.2 56 0)), (2, .ref (Z.2.2 26 0)), (1, .ref (Z.2.2 0 0)), (0, .ref b)]) hx hb dL_law_1299 hl (by decide) rfl (fun ls hl => ?_)
  refine lv_aload_n hx hb dL_law_1301 rfl (lv_at hl 4 rfl) ?_
  refine lv_aload_n hx hb dL_law_1302 rfl (lv_at hl 6 rfl) ?_
  refine lv_iload hx hb dL_law_1303 (lv_at hl 1 rfl) ?_
  refine lv_iconst (v := (1 : Int32)) hx hb dL_law_1305 (by decide) ?_
  refine lv_iadd hx hb dL_law_1306 ?_
  obtain ⟨hg5, hk⟩ := gd_s hk
  refine va_sld hx hb hX hbl hbA hS hg5 dL_law_1307 ?_
  obtain ⟨M7, v6, hf8, hk⟩ := b1_s hk
  refine wc_iV0 (rest := []) (As := [.int (xs ((ix + (1 : Int32))).toNatClampNeg)]) ⟨hx, hb, hml, hown, hts⟩ (fun sz => k_X7_honour l hfl Z hZ X M O3 (xs ((ix + (1 : Int32))).toNatClampNeg) M7 v6 hf8 sz) (cw_RL_275 (args := _) (s := s) hts (Nat.le_of_ble_eq_true rfl) (Nat.le_of_ble_eq_true rfl)) hE hP hK hS (rv_26 hK hP (by decide)) rfl hl.1 rfl (Nat.le_of_ble_eq_true rfl) dL_law_1308 ⟨by show _ ≤ 603072; omega, by show _ ≤ 7223402; omega⟩ (fun H locs hP hS => ?_)
  refine lv_istore (lv' := [(7, .int v6), (6, .int v2), (5, .int ix), (4, .ref (Z.2.2 57 0)), (3, .ref (Z.2.2 56 0)), (2, .ref (Z.2.2 26 0)), (1, .ref (Z.2.2 0 0)), (0, .ref b)]) hx hb dL_law_1311 hl (by decide) rfl (fun ls hl => ?_)
  refine lv_goto (tgt := 1620) hx hb dL_law_1313 (by decide) ?_
  refine lv_iinc (v := (ix + (4 : Int32))) (lv' := [(5, .int (ix + (4 : Int32))), (7, .int v6), (6, .int v2), (4, .ref (Z.2.2 57 0)), (3, .ref (Z.2.2 56 0)), (2, .ref (Z.2.2 26 0)), (1, .ref (Z.2.2 0 0)), (0, .ref b)]) hx hb dL_law_1620 hl (k := 2) rfl rfl (by decide) rfl (fun ls hl => ?_)
  refine lv_goto (tgt := 28) hx hb dL_law_1623 (by decide) ?_
  refine W.widen (k := cells + 3) (n := slots + 18) (by omega) (by omega) ?_
  exact hrc _ _ _ _ _ _ _ hk hP hS (lv_sub hl [0, 3, 4, 5, 6, 7] rfl)
set_option maxHeartbeats 4000000 in
set_option maxRecDepth 100000 in
theorem law_C34 (hfl : l.stackTraces = false) (hZ : wD Z) (hx : p.tables.exec = Jvm.exec) (hb : c.code = code) (hml : c.maxLocals = 9) (hown : s.vm.findClass RL = some m.cls) (hts : ∀ w ∈ lw_all, w.before #[Value.ref b] s = true) (hE : EV (wA Z s.heap.size) s) (hK : wK Z s) (hX : va_X b L xs s s.heap) (hbl : b < s.heap.size) (hbA : ¬ wA Z s.heap.size b) {rc : Int32 → SS → SS → SS → Option Unit} {cells slots : Nat} (hcc : cells + 3 ≤ 603072) (hss : slots + 18 ≤ 7223402) (hrc : ∀ (ix : Int32) (X M O : SS) (H : Heap) (locs : List Loc) (ls : Array Slot), rc ix X M O = some () → wP Z (X, M, O) H → va_S (wA Z s.heap.size) s.heap H locs → lv_has ls 9 [(5, .int ix), (4, .ref (Z.2.2 57 0)), (3, .ref (Z.2.2 56 0)), (2, .ref (Z.2.2 26 0)), (1, .ref (Z.2.2 0 0)), (0, .ref b)] → W p l e room_1 s m #[Value.ref b] below meth c H locs (cells + 3) (slots + 18) Q (F0 m 28 ls [])) (ix : Int32) (X M O : SS) (H : Heap) (locs : List Loc) (ls : Array Slot) (hk : f_law_C34 xs L ix X M O rc = some ()) (hP : wP Z (X, M, O) H) (hS : va_S (wA Z s.heap.size) s.heap H locs) (hl : lv_has ls 9 [(5, .int ix), (4, .ref (Z.2.2 57 0)), (3, .ref (Z.2.2 56 0)), (2, .ref (Z.2.2 26 0)), (1, .ref (Z.2.2 0 0)), (0, .ref b)]) : W p l e room_1 s m #[Value.ref b] below meth c H locs cells slots Q (F0 m 1316 ls []) := by
  unfold f_law_C34 at hk
  refine lv_aload_n hx hb dL_law_1316 rfl (lv_at hl 4 rfl) ?_
  refine lv_aload_n hx hb dL_law_1317 rfl (lv_at hl 5 rfl) ?_
  refine lv_iload hx hb dL_law_1318 (lv_at hl 0 rfl) ?_
  refine lv_iconst (v := (1 : Int32)) hx hb dL_law_1320 (by decide) ?_
  refine lv_iadd hx hb dL_law_1321 ?_
  obtain ⟨hg1, hk⟩ := gd_s hk
  refine va_sld hx hb hX hbl hbA hS hg1 dL_law_1322 ?_
  refine lv_aload_n hx hb dL_law_1323 rfl (lv_at hl 2 rfl) ?_
  obtain ⟨X3, O4, v2, hf5, hk⟩ := b2_s hk
  refine wc_iSX0 (rest := []) (As := [.ref (Z.2.2 0 0), .int (xs ((ix + (1 : Int32))).toNatClampNeg), .ref (Z.2.2 56 0)]) ⟨hx, hb, hml, hown, hts⟩ (fun sz => k_L_ranked l hfl Z hZ X M O (xs ((ix + (1 : Int32))).toNatClampNeg) X3 O4 v2 hf5 sz) (cw_RL_276 (args := _) (s := s) hts (Nat.le_of_ble_eq_true rfl) (Nat.le_of_ble_eq_true rfl)) hE hP hK hS  rfl hl.1 rfl (Nat.le_of_ble_eq_true rfl) dL_law_1324 ⟨by show _ ≤ 603072; omega, by show _ ≤ 7223402; omega⟩ (fun H locs hP hS => ?_)
  refine lv_istore (lv' := [(6, .int v2), (5, .int ix), (4, .ref (Z.2.2 57 0)), (3, .ref (Z.2.2 56 0)), (2, .ref (Z.2.2 26 0)), (1, .ref (Z.2.2 0 0)), (0, .ref b)]) hx hb dL_law_1327 hl (by decide) rfl (fun ls hl => ?_)
  refine lv_aload_n hx hb dL_law_1329 rfl (lv_at hl 4 rfl) ?_
  refine lv_aload_n hx hb dL_law_1330 rfl (lv_at hl 6 rfl) ?_
  refine lv_iload hx hb dL_law_1331 (lv_at hl 1 rfl) ?_
  refine lv_iconst (v := (1 : Int32)) hx hb dL_law_1333 (by decide) ?_
  refine lv_iadd hx hb dL_law_1334 ?_
  obtain ⟨hg6, hk⟩ := gd_s hk
  refine va_sld hx hb hX hbl hbA hS hg6 dL_law_1335 ?_
  obtain ⟨M8, v7, hf9, hk⟩ := b1_s hk
  refine wc_iV0 (rest := []) (As := [.int (xs ((ix + (1 : Int32))).toNatClampNeg)]) ⟨hx, hb, hml, hown, hts⟩ (fun sz => k_X7_ranked l hfl Z hZ X3 M O4 (xs ((ix + (1 : Int32))).toNatClampNeg) M8 v7 hf9 sz) (cw_RL_278 (args := _) (s := s) hts (Nat.le_of_ble_eq_true rfl) (Nat.le_of_ble_eq_true rfl)) hE hP hK hS (rv_26 hK hP (by decide)) rfl hl.1 rfl (Nat.le_of_ble_eq_true rfl) dL_law_1336 ⟨by show _ ≤ 603072; omega, by show _ ≤ 7223402; omega⟩ (fun H locs hP hS => ?_)
  refine lv_istore (lv' := [(7, .int v7), (6, .int v2), (5, .int ix), (4, .ref (Z.2.2 57 0)), (3, .ref (Z.2.2 56 0)), (2, .ref (Z.2.2 26 0)), (1, .ref (Z.2.2 0 0)), (0, .ref b)]) hx hb dL_law_1339 hl (by decide) rfl (fun ls hl => ?_)
  refine lv_goto (tgt := 1620) hx hb dL_law_1341 (by decide) ?_
  refine lv_iinc (v := (ix + (4 : Int32))) (lv' := [(5, .int (ix + (4 : Int32))), (7, .int v7), (6, .int v2), (4, .ref (Z.2.2 57 0)), (3, .ref (Z.2.2 56 0)), (2, .ref (Z.2.2 26 0)), (1, .ref (Z.2.2 0 0)), (0, .ref b)]) hx hb dL_law_1620 hl (k := 2) rfl rfl (by decide) rfl (fun ls hl => ?_)
  refine lv_goto (tgt := 28) hx hb dL_law_1623 (by decide) ?_
  refine W.widen (k := cells + 3) (n := slots + 18) (by omega) (by omega) ?_
  exact hrc _ _ _ _ _ _ _ hk hP hS (lv_sub hl [0, 3, 4, 5, 6, 7] rfl)
set_option maxHeartbeats 4000000 in
set_option maxRecDepth 100000 in
theorem law_C35 (hfl : l.stackTraces = false) (hZ : wD Z) (hx : p.tables.exec = Jvm.exec) (hb : c.code = code) (hml : c.maxLocals = 9) (hown : s.vm.findClass RL = some m.cls) (hts : ∀ w ∈ lw_all, w.before #[Value.ref b] s = true) (hE : EV (wA Z s.heap.size) s) (hK : wK Z s) (hX : va_X b L xs s s.heap) (hbl : b < s.heap.size) (hbA : ¬ wA Z s.heap.size b) {rc : Int32 → SS → SS → SS → Option Unit} {cells slots : Nat} (hcc : cells + 3 ≤ 603072) (hss : slots + 18 ≤ 7223402) (hrc : ∀ (ix : Int32) (X M O : SS) (H : Heap) (locs : List Loc) (ls : Array Slot), rc ix X M O = some () → wP Z (X, M, O) H → va_S (wA Z s.heap.size) s.heap H locs → lv_has ls 9 [(5, .int ix), (4, .ref (Z.2.2 57 0)), (3, .ref (Z.2.2 56 0)), (2, .ref (Z.2.2 26 0)), (1, .ref (Z.2.2 0 0)), (0, .ref b)] → W p l e room_1 s m #[Value.ref b] below meth c H locs (cells + 3) (slots + 18) Q (F0 m 28 ls [])) (ix : Int32) (X M O : SS) (H : Heap) (locs : List Loc) (ls : Array Slot) (hk : f_law_C35 xs L ix X M O rc = some ()) (hP : wP Z (X, M, O) H) (hS : va_S (wA Z s.heap.size) s.heap H locs) (hl : lv_has ls 9 [(5, .int ix), (4, .ref (Z.2.2 57 0)), (3, .ref (Z.2.2 56 0)), (2, .ref (Z.2.2 26 0)), (1, .ref (Z.2.2 0 0)), (0, .ref b)]) : W p l e room_1 s m #[Value.ref b] below meth c H locs cells slots Q (F0 m 1344 ls []) := by
  unfold f_law_C35 at hk
  refine lv_aload_n hx hb dL_law_1344 rfl (lv_at hl 4 rfl) ?_
  refine lv_aload_n hx hb dL_law_1345 rfl (lv_at hl 5 rfl) ?_
  refine lv_iload hx hb dL_law_1346 (lv_at hl 0 rfl) ?_
  refine lv_iconst (v := (1 : Int32)) hx hb dL_law_1348 (by decide) ?_
  refine lv_iadd hx hb dL_law_1349 ?_
  obtain ⟨hg1, hk⟩ := gd_s hk
  refine va_sld hx hb hX hbl hbA hS hg1 dL_law_1350 ?_
  refine lv_aload_n hx hb dL_law_1351 rfl (lv_at hl 5 rfl) ?_
  refine lv_iload hx hb dL_law_1352 (lv_at hl 0 rfl) ?_
  refine lv_iconst (v := (2 : Int32)) hx hb dL_law_1354 (by decide) ?_
  refine lv_iadd hx hb dL_law_1355 ?_
  obtain ⟨hg2, hk⟩ := gd_s hk
  refine va_sld hx hb hX hbl hbA hS hg2 dL_law_1356 ?_
  refine lv_aload_n hx hb dL_law_1357 rfl (lv_at hl 2 rfl) ?_
  obtain ⟨X4, O5, v3, hf6, hk⟩ := b2_s hk
  refine wc_iSX0 (rest := []) (As := [.ref (Z.2.2 0 0), .int (xs ((ix + (1 : Int32))).toNatClampNeg), .int (xs ((ix + (2 : Int32))).toNatClampNeg), .ref (Z.2.2 56 0)]) ⟨hx, hb, hml, hown, hts⟩ (fun sz => k_L_challenge l hfl Z hZ X M O (xs ((ix + (1 : Int32))).toNatClampNeg) (xs ((ix + (2 : Int32))).toNatClampNeg) X4 O5 v3 hf6 sz) (cw_RL_279 (args := _) (s := s) hts (Nat.le_of_ble_eq_true rfl) (Nat.le_of_ble_eq_true rfl)) hE hP hK hS  rfl hl.1 rfl (Nat.le_of_ble_eq_true rfl) dL_law_1358 ⟨by show _ ≤ 603072; omega, by show _ ≤ 7223402; omega⟩ (fun H locs hP hS => ?_)
  refine lv_istore (lv' := [(6, .int v3), (5, .int ix), (4, .ref (Z.2.2 57 0)), (3, .ref (Z.2.2 56 0)), (2, .ref (Z.2.2 26 0)), (1, .ref (Z.2.2 0 0)), (0, .ref b)]) hx hb dL_law_1361 hl (by decide) rfl (fun ls hl => ?_)
  refine lv_aload_n hx hb dL_law_1363 rfl (lv_at hl 4 rfl) ?_
  refine lv_aload_n hx hb dL_law_1364 rfl (lv_at hl 6 rfl) ?_
  refine lv_iload hx hb dL_law_1365 (lv_at hl 1 rfl) ?_
  refine lv_iconst (v := (1 : Int32)) hx hb dL_law_1367 (by decide) ?_
  refine lv_iadd hx hb dL_law_1368 ?_
  obtain ⟨hg7, hk⟩ := gd_s hk
  refine va_sld hx hb hX hbl hbA hS hg7 dL_law_1369 ?_
  refine lv_aload_n hx hb dL_law_1370 rfl (lv_at hl 6 rfl) ?_
  refine lv_iload hx hb dL_law_1371 (lv_at hl 1 rfl) ?_
  refine lv_iconst (v := (2 : Int32)) hx hb dL_law_1373 (by decide) ?_
  refine lv_iadd hx hb dL_law_1374 ?_
  obtain ⟨hg8, hk⟩ := gd_s hk
  refine va_sld hx hb hX hbl hbA hS hg8 dL_law_1375 ?_
  obtain ⟨M10, v9, hf11, hk⟩ := b1_s hk
  refine wc_iV0 (rest := []) (As := [.int (xs ((ix + (1 : Int32))).toNatClampNeg), .int (xs ((ix + (2 : Int32))).toNatClampNeg)]) ⟨hx, hb, hml, hown, hts⟩ (fun sz => k_X7_challenge l hfl Z hZ X4 M O5 (xs ((ix + (1 : Int32))).toNatClampNeg) (xs ((ix + (2 : Int32))).toNatClampNeg) M10 v9 hf11 sz) (cw_RL_281 (args := _) (s := s) hts (Nat.le_of_ble_eq_true rfl) (Nat.le_of_ble_eq_true rfl)) hE hP hK hS (rv_26 hK hP (by decide)) rfl hl.1 rfl (Nat.le_of_ble_eq_true rfl) dL_law_1376 ⟨by show _ ≤ 603072; omega, by show _ ≤ 7223402; omega⟩ (fun H locs hP hS => ?_)
  refine lv_istore (lv' := [(7, .int v9), (6, .int v3), (5, .int ix), (4, .ref (Z.2.2 57 0)), (3, .ref (Z.2.2 56 0)), (2, .ref (Z.2.2 26 0)), (1, .ref (Z.2.2 0 0)), (0, .ref b)]) hx hb dL_law_1379 hl (by decide) rfl (fun ls hl => ?_)
  refine lv_goto (tgt := 1620) hx hb dL_law_1381 (by decide) ?_
  refine lv_iinc (v := (ix + (4 : Int32))) (lv' := [(5, .int (ix + (4 : Int32))), (7, .int v9), (6, .int v3), (4, .ref (Z.2.2 57 0)), (3, .ref (Z.2.2 56 0)), (2, .ref (Z.2.2 26 0)), (1, .ref (Z.2.2 0 0)), (0, .ref b)]) hx hb dL_law_1620 hl (k := 2) rfl rfl (by decide) rfl (fun ls hl => ?_)
  refine lv_goto (tgt := 28) hx hb dL_law_1623 (by decide) ?_
  refine W.widen (k := cells + 3) (n := slots + 18) (by omega) (by omega) ?_
  exact hrc _ _ _ _ _ _ _ hk hP hS (lv_sub hl [0, 3, 4, 5, 6, 7] rfl)
set_option maxHeartbeats 4000000 in
set_option maxRecDepth 100000 in
theorem law_C36 (hfl : l.stackTraces = false) (hZ : wD Z) (hx : p.tables.exec = Jvm.exec) (hb : c.code = code) (hml : c.maxLocals = 9) (hown : s.vm.findClass RL = some m.cls) (hts : ∀ w ∈ lw_all, w.before #[Value.ref b] s = true) (hE : EV (wA Z s.heap.size) s) (hK : wK Z s) (hX : va_X b L xs s s.heap) (hbl : b < s.heap.size) (hbA : ¬ wA Z s.heap.size b) {rc : Int32 → SS → SS → SS → Option Unit} {cells slots : Nat} (hcc : cells + 3 ≤ 603072) (hss : slots + 18 ≤ 7223402) (hrc : ∀ (ix : Int32) (X M O : SS) (H : Heap) (locs : List Loc) (ls : Array Slot), rc ix X M O = some () → wP Z (X, M, O) H → va_S (wA Z s.heap.size) s.heap H locs → lv_has ls 9 [(5, .int ix), (4, .ref (Z.2.2 57 0)), (3, .ref (Z.2.2 56 0)), (2, .ref (Z.2.2 26 0)), (1, .ref (Z.2.2 0 0)), (0, .ref b)] → W p l e room_1 s m #[Value.ref b] below meth c H locs (cells + 3) (slots + 18) Q (F0 m 28 ls [])) (ix : Int32) (X M O : SS) (H : Heap) (locs : List Loc) (ls : Array Slot) (hk : f_law_C36 xs L ix X M O rc = some ()) (hP : wP Z (X, M, O) H) (hS : va_S (wA Z s.heap.size) s.heap H locs) (hl : lv_has ls 9 [(5, .int ix), (4, .ref (Z.2.2 57 0)), (3, .ref (Z.2.2 56 0)), (2, .ref (Z.2.2 26 0)), (1, .ref (Z.2.2 0 0)), (0, .ref b)]) : W p l e room_1 s m #[Value.ref b] below meth c H locs cells slots Q (F0 m 1384 ls []) := by
  unfold f_law_C36 at hk
  refine lv_aload_n hx hb dL_law_1384 rfl (lv_at hl 4 rfl) ?_
  refine lv_aload_n hx hb dL_law_1385 rfl (lv_at hl 5 rfl) ?_
  refine lv_iload hx hb dL_law_1386 (lv_at hl 0 rfl) ?_
  refine lv_iconst (v := (1 : Int32)) hx hb dL_law_1388 (by decide) ?_
  refine lv_iadd hx hb dL_law_1389 ?_
  obtain ⟨hg1, hk⟩ := gd_s hk
  refine va_sld hx hb hX hbl hbA hS hg1 dL_law_1390 ?_
  refine lv_aload_n hx hb dL_law_1391 rfl (lv_at hl 5 rfl) ?_
  refine lv_iload hx hb dL_law_1392 (lv_at hl 0 rfl) ?_
  refine lv_iconst (v := (2 : Int32)) hx hb dL_law_1394 (by decide) ?_
  refine lv_iadd hx hb dL_law_1395 ?_
  obtain ⟨hg2, hk⟩ := gd_s hk
  refine va_sld hx hb hX hbl hbA hS hg2 dL_law_1396 ?_
  refine lv_aload_n hx hb dL_law_1397 rfl (lv_at hl 2 rfl) ?_
  obtain ⟨X4, O5, v3, hf6, hk⟩ := b2_s hk
  refine wc_iSX0 (rest := []) (As := [.ref (Z.2.2 0 0), .int (xs ((ix + (1 : Int32))).toNatClampNeg), .int (xs ((ix + (2 : Int32))).toNatClampNeg), .ref (Z.2.2 56 0)]) ⟨hx, hb, hml, hown, hts⟩ (fun sz => k_L_give l hfl Z hZ X M O (xs ((ix + (1 : Int32))).toNatClampNeg) (xs ((ix + (2 : Int32))).toNatClampNeg) X4 O5 v3 hf6 sz) (cw_RL_282 (args := _) (s := s) hts (Nat.le_of_ble_eq_true rfl) (Nat.le_of_ble_eq_true rfl)) hE hP hK hS  rfl hl.1 rfl (Nat.le_of_ble_eq_true rfl) dL_law_1398 ⟨by show _ ≤ 603072; omega, by show _ ≤ 7223402; omega⟩ (fun H locs hP hS => ?_)
  refine lv_istore (lv' := [(6, .int v3), (5, .int ix), (4, .ref (Z.2.2 57 0)), (3, .ref (Z.2.2 56 0)), (2, .ref (Z.2.2 26 0)), (1, .ref (Z.2.2 0 0)), (0, .ref b)]) hx hb dL_law_1401 hl (by decide) rfl (fun ls hl => ?_)
  refine lv_aload_n hx hb dL_law_1403 rfl (lv_at hl 4 rfl) ?_
  refine lv_aload_n hx hb dL_law_1404 rfl (lv_at hl 6 rfl) ?_
  refine lv_iload hx hb dL_law_1405 (lv_at hl 1 rfl) ?_
  refine lv_iconst (v := (1 : Int32)) hx hb dL_law_1407 (by decide) ?_
  refine lv_iadd hx hb dL_law_1408 ?_
  obtain ⟨hg7, hk⟩ := gd_s hk
  refine va_sld hx hb hX hbl hbA hS hg7 dL_law_1409 ?_
  refine lv_aload_n hx hb dL_law_1410 rfl (lv_at hl 6 rfl) ?_
  refine lv_iload hx hb dL_law_1411 (lv_at hl 1 rfl) ?_
  refine lv_iconst (v := (2 : Int32)) hx hb dL_law_1413 (by decide) ?_
  refine lv_iadd hx hb dL_law_1414 ?_
  obtain ⟨hg8, hk⟩ := gd_s hk
  refine va_sld hx hb hX hbl hbA hS hg8 dL_law_1415 ?_
  obtain ⟨M10, v9, hf11, hk⟩ := b1_s hk
  refine wc_iV0 (rest := []) (As := [.int (xs ((ix + (1 : Int32))).toNatClampNeg), .int (xs ((ix + (2 : Int32))).toNatClampNeg)]) ⟨hx, hb, hml, hown, hts⟩ (fun sz => k_X7_give l hfl Z hZ X4 M O5 (xs ((ix + (1 : Int32))).toNatClampNeg) (xs ((ix + (2 : Int32))).toNatClampNeg) M10 v9 hf11 sz) (cw_RL_284 (args := _) (s := s) hts (Nat.le_of_ble_eq_true rfl) (Nat.le_of_ble_eq_true rfl)) hE hP hK hS (rv_26 hK hP (by decide)) rfl hl.1 rfl (Nat.le_of_ble_eq_true rfl) dL_law_1416 ⟨by show _ ≤ 603072; omega, by show _ ≤ 7223402; omega⟩ (fun H locs hP hS => ?_)
  refine lv_istore (lv' := [(7, .int v9), (6, .int v3), (5, .int ix), (4, .ref (Z.2.2 57 0)), (3, .ref (Z.2.2 56 0)), (2, .ref (Z.2.2 26 0)), (1, .ref (Z.2.2 0 0)), (0, .ref b)]) hx hb dL_law_1419 hl (by decide) rfl (fun ls hl => ?_)
  refine lv_goto (tgt := 1620) hx hb dL_law_1421 (by decide) ?_
  refine lv_iinc (v := (ix + (4 : Int32))) (lv' := [(5, .int (ix + (4 : Int32))), (7, .int v9), (6, .int v3), (4, .ref (Z.2.2 57 0)), (3, .ref (Z.2.2 56 0)), (2, .ref (Z.2.2 26 0)), (1, .ref (Z.2.2 0 0)), (0, .ref b)]) hx hb dL_law_1620 hl (k := 2) rfl rfl (by decide) rfl (fun ls hl => ?_)
  refine lv_goto (tgt := 28) hx hb dL_law_1623 (by decide) ?_
  refine W.widen (k := cells + 3) (n := slots + 18) (by omega) (by omega) ?_
  exact hrc _ _ _ _ _ _ _ hk hP hS (lv_sub hl [0, 3, 4, 5, 6, 7] rfl)
set_option maxHeartbeats 4000000 in
set_option maxRecDepth 100000 in
theorem law_C37 (hfl : l.stackTraces = false) (hZ : wD Z) (hx : p.tables.exec = Jvm.exec) (hb : c.code = code) (hml : c.maxLocals = 9) (hown : s.vm.findClass RL = some m.cls) (hts : ∀ w ∈ lw_all, w.before #[Value.ref b] s = true) (hE : EV (wA Z s.heap.size) s) (hK : wK Z s) (hX : va_X b L xs s s.heap) (hbl : b < s.heap.size) (hbA : ¬ wA Z s.heap.size b) {rc : Int32 → SS → SS → SS → Option Unit} {cells slots : Nat} (hcc : cells + 3 ≤ 603072) (hss : slots + 18 ≤ 7223402) (hrc : ∀ (ix : Int32) (X M O : SS) (H : Heap) (locs : List Loc) (ls : Array Slot), rc ix X M O = some () → wP Z (X, M, O) H → va_S (wA Z s.heap.size) s.heap H locs → lv_has ls 9 [(5, .int ix), (4, .ref (Z.2.2 57 0)), (3, .ref (Z.2.2 56 0)), (2, .ref (Z.2.2 26 0)), (1, .ref (Z.2.2 0 0)), (0, .ref b)] → W p l e room_1 s m #[Value.ref b] below meth c H locs (cells + 3) (slots + 18) Q (F0 m 28 ls [])) (ix : Int32) (X M O : SS) (H : Heap) (locs : List Loc) (ls : Array Slot) (hk : f_law_C37 xs L ix X M O rc = some ()) (hP : wP Z (X, M, O) H) (hS : va_S (wA Z s.heap.size) s.heap H locs) (hl : lv_has ls 9 [(5, .int ix), (4, .ref (Z.2.2 57 0)), (3, .ref (Z.2.2 56 0)), (2, .ref (Z.2.2 26 0)), (1, .ref (Z.2.2 0 0)), (0, .ref b)]) : W p l e room_1 s m #[Value.ref b] below meth c H locs cells slots Q (F0 m 1424 ls []) := by
  unfold f_law_C37 at hk
  refine lv_aload_n hx hb dL_law_1424 rfl (lv_at hl 4 rfl) ?_
  refine lv_aload_n hx hb dL_law_1425 rfl (lv_at hl 5 rfl) ?_
  refine lv_iload hx hb dL_law_1426 (lv_at hl 0 rfl) ?_
  refine lv_iconst (v := (1 : Int32)) hx hb dL_law_1428 (by decide) ?_
  refine lv_iadd hx hb dL_law_1429 ?_
  obtain ⟨hg1, hk⟩ := gd_s hk
  refine va_sld hx hb hX hbl hbA hS hg1 dL_law_1430 ?_
  refine lv_aload_n hx hb dL_law_1431 rfl (lv_at hl 5 rfl) ?_
  refine lv_iload hx hb dL_law_1432 (lv_at hl 0 rfl) ?_
  refine lv_iconst (v := (2 : Int32)) hx hb dL_law_1434 (by decide) ?_
  refine lv_iadd hx hb dL_law_1435 ?_
  obtain ⟨hg2, hk⟩ := gd_s hk
  refine va_sld hx hb hX hbl hbA hS hg2 dL_law_1436 ?_
  refine lv_aload_n hx hb dL_law_1437 rfl (lv_at hl 2 rfl) ?_
  obtain ⟨X4, O5, v3, hf6, hk⟩ := b2_s hk
  refine wc_iSX0 (rest := []) (As := [.ref (Z.2.2 0 0), .int (xs ((ix + (1 : Int32))).toNatClampNeg), .int (xs ((ix + (2 : Int32))).toNatClampNeg), .ref (Z.2.2 56 0)]) ⟨hx, hb, hml, hown, hts⟩ (fun sz => k_L_answer l hfl Z hZ X M O (xs ((ix + (1 : Int32))).toNatClampNeg) (xs ((ix + (2 : Int32))).toNatClampNeg) X4 O5 v3 hf6 sz) (cw_RL_285 (args := _) (s := s) hts (Nat.le_of_ble_eq_true rfl) (Nat.le_of_ble_eq_true rfl)) hE hP hK hS  rfl hl.1 rfl (Nat.le_of_ble_eq_true rfl) dL_law_1438 ⟨by show _ ≤ 603072; omega, by show _ ≤ 7223402; omega⟩ (fun H locs hP hS => ?_)
  refine lv_istore (lv' := [(6, .int v3), (5, .int ix), (4, .ref (Z.2.2 57 0)), (3, .ref (Z.2.2 56 0)), (2, .ref (Z.2.2 26 0)), (1, .ref (Z.2.2 0 0)), (0, .ref b)]) hx hb dL_law_1441 hl (by decide) rfl (fun ls hl => ?_)
  refine lv_aload_n hx hb dL_law_1443 rfl (lv_at hl 4 rfl) ?_
  refine lv_aload_n hx hb dL_law_1444 rfl (lv_at hl 6 rfl) ?_
  refine lv_iload hx hb dL_law_1445 (lv_at hl 1 rfl) ?_
  refine lv_iconst (v := (1 : Int32)) hx hb dL_law_1447 (by decide) ?_
  refine lv_iadd hx hb dL_law_1448 ?_
  obtain ⟨hg7, hk⟩ := gd_s hk
  refine va_sld hx hb hX hbl hbA hS hg7 dL_law_1449 ?_
  refine lv_aload_n hx hb dL_law_1450 rfl (lv_at hl 6 rfl) ?_
  refine lv_iload hx hb dL_law_1451 (lv_at hl 1 rfl) ?_
  refine lv_iconst (v := (2 : Int32)) hx hb dL_law_1453 (by decide) ?_
  refine lv_iadd hx hb dL_law_1454 ?_
  obtain ⟨hg8, hk⟩ := gd_s hk
  refine va_sld hx hb hX hbl hbA hS hg8 dL_law_1455 ?_
  obtain ⟨M10, v9, hf11, hk⟩ := b1_s hk
  refine wc_iV0 (rest := []) (As := [.int (xs ((ix + (1 : Int32))).toNatClampNeg), .int (xs ((ix + (2 : Int32))).toNatClampNeg)]) ⟨hx, hb, hml, hown, hts⟩ (fun sz => k_X7_answer l hfl Z hZ X4 M O5 (xs ((ix + (1 : Int32))).toNatClampNeg) (xs ((ix + (2 : Int32))).toNatClampNeg) M10 v9 hf11 sz) (cw_RL_287 (args := _) (s := s) hts (Nat.le_of_ble_eq_true rfl) (Nat.le_of_ble_eq_true rfl)) hE hP hK hS (rv_26 hK hP (by decide)) rfl hl.1 rfl (Nat.le_of_ble_eq_true rfl) dL_law_1456 ⟨by show _ ≤ 603072; omega, by show _ ≤ 7223402; omega⟩ (fun H locs hP hS => ?_)
  refine lv_istore (lv' := [(7, .int v9), (6, .int v3), (5, .int ix), (4, .ref (Z.2.2 57 0)), (3, .ref (Z.2.2 56 0)), (2, .ref (Z.2.2 26 0)), (1, .ref (Z.2.2 0 0)), (0, .ref b)]) hx hb dL_law_1459 hl (by decide) rfl (fun ls hl => ?_)
  refine lv_goto (tgt := 1620) hx hb dL_law_1461 (by decide) ?_
  refine lv_iinc (v := (ix + (4 : Int32))) (lv' := [(5, .int (ix + (4 : Int32))), (7, .int v9), (6, .int v3), (4, .ref (Z.2.2 57 0)), (3, .ref (Z.2.2 56 0)), (2, .ref (Z.2.2 26 0)), (1, .ref (Z.2.2 0 0)), (0, .ref b)]) hx hb dL_law_1620 hl (k := 2) rfl rfl (by decide) rfl (fun ls hl => ?_)
  refine lv_goto (tgt := 28) hx hb dL_law_1623 (by decide) ?_
  refine W.widen (k := cells + 3) (n := slots + 18) (by omega) (by omega) ?_
  exact hrc _ _ _ _ _ _ _ hk hP hS (lv_sub hl [0, 3, 4, 5, 6, 7] rfl)
set_option maxHeartbeats 4000000 in
set_option maxRecDepth 100000 in
theorem law_C38 (hfl : l.stackTraces = false) (hZ : wD Z) (hx : p.tables.exec = Jvm.exec) (hb : c.code = code) (hml : c.maxLocals = 9) (hown : s.vm.findClass RL = some m.cls) (hts : ∀ w ∈ lw_all, w.before #[Value.ref b] s = true) (hE : EV (wA Z s.heap.size) s) (hK : wK Z s) (hX : va_X b L xs s s.heap) (hbl : b < s.heap.size) (hbA : ¬ wA Z s.heap.size b) {rc : Int32 → SS → SS → SS → Option Unit} {cells slots : Nat} (hcc : cells + 3 ≤ 603072) (hss : slots + 18 ≤ 7223402) (hrc : ∀ (ix : Int32) (X M O : SS) (H : Heap) (locs : List Loc) (ls : Array Slot), rc ix X M O = some () → wP Z (X, M, O) H → va_S (wA Z s.heap.size) s.heap H locs → lv_has ls 9 [(5, .int ix), (4, .ref (Z.2.2 57 0)), (3, .ref (Z.2.2 56 0)), (2, .ref (Z.2.2 26 0)), (1, .ref (Z.2.2 0 0)), (0, .ref b)] → W p l e room_1 s m #[Value.ref b] below meth c H locs (cells + 3) (slots + 18) Q (F0 m 28 ls [])) (ix : Int32) (X M O : SS) (H : Heap) (locs : List Loc) (ls : Array Slot) (hk : f_law_C38 xs L ix X M O rc = some ()) (hP : wP Z (X, M, O) H) (hS : va_S (wA Z s.heap.size) s.heap H locs) (hl : lv_has ls 9 [(5, .int ix), (4, .ref (Z.2.2 57 0)), (3, .ref (Z.2.2 56 0)), (2, .ref (Z.2.2 26 0)), (1, .ref (Z.2.2 0 0)), (0, .ref b)]) : W p l e room_1 s m #[Value.ref b] below meth c H locs cells slots Q (F0 m 1464 ls []) := by
  unfold f_law_C38 at hk
  refine lv_aload_n hx hb dL_law_1464 rfl (lv_at hl 4 rfl) ?_
  refine lv_aload_n hx hb dL_law_1465 rfl (lv_at hl 5 rfl) ?_
  refine lv_iload hx hb dL_law_1466 (lv_at hl 0 rfl) ?_
  refine lv_iconst (v := (1 : Int32)) hx hb dL_law_1468 (by decide) ?_
  refine lv_iadd hx hb dL_law_1469 ?_
  obtain ⟨hg1, hk⟩ := gd_s hk
  refine va_sld hx hb hX hbl hbA hS hg1 dL_law_1470 ?_
  refine lv_aload_n hx hb dL_law_1471 rfl (lv_at hl 2 rfl) ?_
  obtain ⟨O3, v2, hf4, hk⟩ := b1_s hk
  refine wc_iSX0 (rest := []) (As := [.ref (Z.2.2 0 0), .int (xs ((ix + (1 : Int32))).toNatClampNeg), .ref (Z.2.2 56 0)]) ⟨hx, hb, hml, hown, hts⟩ (fun sz => k_L_open l hfl Z hZ X M O (xs ((ix + (1 : Int32))).toNatClampNeg) O3 v2 hf4 sz) (cw_RL_288 (args := _) (s := s) hts (Nat.le_of_ble_eq_true rfl) (Nat.le_of_ble_eq_true rfl)) hE hP hK hS  rfl hl.1 rfl (Nat.le_of_ble_eq_true rfl) dL_law_1472 ⟨by show _ ≤ 603072; omega, by show _ ≤ 7223402; omega⟩ (fun H locs hP hS => ?_)
  refine lv_istore (lv' := [(6, .int v2), (5, .int ix), (4, .ref (Z.2.2 57 0)), (3, .ref (Z.2.2 56 0)), (2, .ref (Z.2.2 26 0)), (1, .ref (Z.2.2 0 0)), (0, .ref b)]) hx hb dL_law_1475 hl (by decide) rfl (fun ls hl => ?_)
  refine lv_aload_n hx hb dL_law_1477 rfl (lv_at hl 4 rfl) ?_
  refine lv_aload_n hx hb dL_law_1478 rfl (lv_at hl 6 rfl) ?_
  refine lv_iload hx hb dL_law_1479 (lv_at hl 1 rfl) ?_
  refine lv_iconst (v := (1 : Int32)) hx hb dL_law_1481 (by decide) ?_
  refine lv_iadd hx hb dL_law_1482 ?_
  obtain ⟨hg5, hk⟩ := gd_s hk
  refine va_sld hx hb hX hbl hbA hS hg5 dL_law_1483 ?_
  obtain ⟨M7, v6, hf8, hk⟩ := b1_s hk
  refine wc_iV0 (rest := []) (As := [.int (xs ((ix + (1 : Int32))).toNatClampNeg)]) ⟨hx, hb, hml, hown, hts⟩ (fun sz => k_X7_open l hfl Z hZ X M O3 (xs ((ix + (1 : Int32))).toNatClampNeg) M7 v6 hf8 sz) (cw_RL_290 (args := _) (s := s) hts (Nat.le_of_ble_eq_true rfl) (Nat.le_of_ble_eq_true rfl)) hE hP hK hS (rv_26 hK hP (by decide)) rfl hl.1 rfl (Nat.le_of_ble_eq_true rfl) dL_law_1484 ⟨by show _ ≤ 603072; omega, by show _ ≤ 7223402; omega⟩ (fun H locs hP hS => ?_)
  refine lv_istore (lv' := [(7, .int v6), (6, .int v2), (5, .int ix), (4, .ref (Z.2.2 57 0)), (3, .ref (Z.2.2 56 0)), (2, .ref (Z.2.2 26 0)), (1, .ref (Z.2.2 0 0)), (0, .ref b)]) hx hb dL_law_1487 hl (by decide) rfl (fun ls hl => ?_)
  refine lv_goto (tgt := 1620) hx hb dL_law_1489 (by decide) ?_
  refine lv_iinc (v := (ix + (4 : Int32))) (lv' := [(5, .int (ix + (4 : Int32))), (7, .int v6), (6, .int v2), (4, .ref (Z.2.2 57 0)), (3, .ref (Z.2.2 56 0)), (2, .ref (Z.2.2 26 0)), (1, .ref (Z.2.2 0 0)), (0, .ref b)]) hx hb dL_law_1620 hl (k := 2) rfl rfl (by decide) rfl (fun ls hl => ?_)
  refine lv_goto (tgt := 28) hx hb dL_law_1623 (by decide) ?_
  refine W.widen (k := cells + 3) (n := slots + 18) (by omega) (by omega) ?_
  exact hrc _ _ _ _ _ _ _ hk hP hS (lv_sub hl [0, 3, 4, 5, 6, 7] rfl)
set_option maxHeartbeats 4000000 in
set_option maxRecDepth 100000 in
theorem law_C39 (hfl : l.stackTraces = false) (hZ : wD Z) (hx : p.tables.exec = Jvm.exec) (hb : c.code = code) (hml : c.maxLocals = 9) (hown : s.vm.findClass RL = some m.cls) (hts : ∀ w ∈ lw_all, w.before #[Value.ref b] s = true) (hE : EV (wA Z s.heap.size) s) (hK : wK Z s) (hX : va_X b L xs s s.heap) (hbl : b < s.heap.size) (hbA : ¬ wA Z s.heap.size b) {rc : Int32 → SS → SS → SS → Option Unit} {cells slots : Nat} (hcc : cells + 3 ≤ 603072) (hss : slots + 18 ≤ 7223402) (hrc : ∀ (ix : Int32) (X M O : SS) (H : Heap) (locs : List Loc) (ls : Array Slot), rc ix X M O = some () → wP Z (X, M, O) H → va_S (wA Z s.heap.size) s.heap H locs → lv_has ls 9 [(5, .int ix), (4, .ref (Z.2.2 57 0)), (3, .ref (Z.2.2 56 0)), (2, .ref (Z.2.2 26 0)), (1, .ref (Z.2.2 0 0)), (0, .ref b)] → W p l e room_1 s m #[Value.ref b] below meth c H locs (cells + 3) (slots + 18) Q (F0 m 28 ls [])) (ix : Int32) (X M O : SS) (H : Heap) (locs : List Loc) (ls : Array Slot) (hk : f_law_C39 xs L ix X M O rc = some ()) (hP : wP Z (X, M, O) H) (hS : va_S (wA Z s.heap.size) s.heap H locs) (hl : lv_has ls 9 [(5, .int ix), (4, .ref (Z.2.2 57 0)), (3, .ref (Z.2.2 56 0)), (2, .ref (Z.2.2 26 0)), (1, .ref (Z.2.2 0 0)), (0, .ref b)]) : W p l e room_1 s m #[Value.ref b] below meth c H locs cells slots Q (F0 m 1492 ls []) := by
  unfold f_law_C39 at hk
  refine lv_aload_n hx hb dL_law_1492 rfl (lv_at hl 4 rfl) ?_
  refine lv_aload_n hx hb dL_law_1493 rfl (lv_at hl 5 rfl) ?_
  refine lv_iload hx hb dL_law_1494 (lv_at hl 0 rfl) ?_
  refine lv_iconst (v := (1 : Int32)) hx hb dL_law_1496 (by decide) ?_
  refine lv_iadd hx hb dL_law_1497 ?_
  obtain ⟨hg1, hk⟩ := gd_s hk
  refine va_sld hx hb hX hbl hbA hS hg1 dL_law_1498 ?_
  refine lv_aload_n hx hb dL_law_1499 rfl (lv_at hl 2 rfl) ?_
  obtain ⟨O3, v2, hf4, hk⟩ := b1_s hk
  refine wc_iSX0 (rest := []) (As := [.ref (Z.2.2 0 0), .int (xs ((ix + (1 : Int32))).toNatClampNeg), .ref (Z.2.2 56 0)]) ⟨hx, hb, hml, hown, hts⟩ (fun sz => k_L_left l hfl Z hZ X M O (xs ((ix + (1 : Int32))).toNatClampNeg) O3 v2 hf4 sz) (cw_RL_291 (args := _) (s := s) hts (Nat.le_of_ble_eq_true rfl) (Nat.le_of_ble_eq_true rfl)) hE hP hK hS  rfl hl.1 rfl (Nat.le_of_ble_eq_true rfl) dL_law_1500 ⟨by show _ ≤ 603072; omega, by show _ ≤ 7223402; omega⟩ (fun H locs hP hS => ?_)
  refine lv_istore (lv' := [(6, .int v2), (5, .int ix), (4, .ref (Z.2.2 57 0)), (3, .ref (Z.2.2 56 0)), (2, .ref (Z.2.2 26 0)), (1, .ref (Z.2.2 0 0)), (0, .ref b)]) hx hb dL_law_1503 hl (by decide) rfl (fun ls hl => ?_)
  refine lv_aload_n hx hb dL_law_1505 rfl (lv_at hl 4 rfl) ?_
  refine lv_aload_n hx hb dL_law_1506 rfl (lv_at hl 6 rfl) ?_
  refine lv_iload hx hb dL_law_1507 (lv_at hl 1 rfl) ?_
  refine lv_iconst (v := (1 : Int32)) hx hb dL_law_1509 (by decide) ?_
  refine lv_iadd hx hb dL_law_1510 ?_
  obtain ⟨hg5, hk⟩ := gd_s hk
  refine va_sld hx hb hX hbl hbA hS hg5 dL_law_1511 ?_
  obtain ⟨M7, v6, hf8, hk⟩ := b1_s hk
  refine wc_iV0 (rest := []) (As := [.int (xs ((ix + (1 : Int32))).toNatClampNeg)]) ⟨hx, hb, hml, hown, hts⟩ (fun sz => k_X7_left l hfl Z hZ X M O3 (xs ((ix + (1 : Int32))).toNatClampNeg) M7 v6 hf8 sz) (cw_RL_293 (args := _) (s := s) hts (Nat.le_of_ble_eq_true rfl) (Nat.le_of_ble_eq_true rfl)) hE hP hK hS (rv_26 hK hP (by decide)) rfl hl.1 rfl (Nat.le_of_ble_eq_true rfl) dL_law_1512 ⟨by show _ ≤ 603072; omega, by show _ ≤ 7223402; omega⟩ (fun H locs hP hS => ?_)
  refine lv_istore (lv' := [(7, .int v6), (6, .int v2), (5, .int ix), (4, .ref (Z.2.2 57 0)), (3, .ref (Z.2.2 56 0)), (2, .ref (Z.2.2 26 0)), (1, .ref (Z.2.2 0 0)), (0, .ref b)]) hx hb dL_law_1515 hl (by decide) rfl (fun ls hl => ?_)
  refine lv_goto (tgt := 1620) hx hb dL_law_1517 (by decide) ?_
  refine lv_iinc (v := (ix + (4 : Int32))) (lv' := [(5, .int (ix + (4 : Int32))), (7, .int v6), (6, .int v2), (4, .ref (Z.2.2 57 0)), (3, .ref (Z.2.2 56 0)), (2, .ref (Z.2.2 26 0)), (1, .ref (Z.2.2 0 0)), (0, .ref b)]) hx hb dL_law_1620 hl (k := 2) rfl rfl (by decide) rfl (fun ls hl => ?_)
  refine lv_goto (tgt := 28) hx hb dL_law_1623 (by decide) ?_
  refine W.widen (k := cells + 3) (n := slots + 18) (by omega) (by omega) ?_
  exact hrc _ _ _ _ _ _ _ hk hP hS (lv_sub hl [0, 3, 4, 5, 6, 7] rfl)
set_option maxHeartbeats 4000000 in
set_option maxRecDepth 100000 in
theorem law_C40 (hfl : l.stackTraces = false) (hZ : wD Z) (hx : p.tables.exec = Jvm.exec) (hb : c.code = code) (hml : c.maxLocals = 9) (hown : s.vm.findClass RL = some m.cls) (hts : ∀ w ∈ lw_all, w.before #[Value.ref b] s = true) (hE : EV (wA Z s.heap.size) s) (hK : wK Z s) (hX : va_X b L xs s s.heap) (hbl : b < s.heap.size) (hbA : ¬ wA Z s.heap.size b) {rc : Int32 → SS → SS → SS → Option Unit} {cells slots : Nat} (hcc : cells + 3 ≤ 603072) (hss : slots + 18 ≤ 7223402) (hrc : ∀ (ix : Int32) (X M O : SS) (H : Heap) (locs : List Loc) (ls : Array Slot), rc ix X M O = some () → wP Z (X, M, O) H → va_S (wA Z s.heap.size) s.heap H locs → lv_has ls 9 [(5, .int ix), (4, .ref (Z.2.2 57 0)), (3, .ref (Z.2.2 56 0)), (2, .ref (Z.2.2 26 0)), (1, .ref (Z.2.2 0 0)), (0, .ref b)] → W p l e room_1 s m #[Value.ref b] below meth c H locs (cells + 3) (slots + 18) Q (F0 m 28 ls [])) (ix : Int32) (X M O : SS) (H : Heap) (locs : List Loc) (ls : Array Slot) (hk : f_law_C40 xs L ix X M O rc = some ()) (hP : wP Z (X, M, O) H) (hS : va_S (wA Z s.heap.size) s.heap H locs) (hl : lv_has ls 9 [(5, .int ix), (4, .ref (Z.2.2 57 0)), (3, .ref (Z.2.2 56 0)), (2, .ref (Z.2.2 26 0)), (1, .ref (Z.2.2 0 0)), (0, .ref b)]) : W p l e room_1 s m #[Value.ref b] below meth c H locs cells slots Q (F0 m 1520 ls []) := by
  unfold f_law_C40 at hk
  refine lv_aload_n hx hb dL_law_1520 rfl (lv_at hl 4 rfl) ?_
  refine lv_aload_n hx hb dL_law_1521 rfl (lv_at hl 5 rfl) ?_
  refine lv_iload hx hb dL_law_1522 (lv_at hl 0 rfl) ?_
  refine lv_iconst (v := (1 : Int32)) hx hb dL_law_1524 (by decide) ?_
  refine lv_iadd hx hb dL_law_1525 ?_
  obtain ⟨hg1, hk⟩ := gd_s hk
  refine va_sld hx hb hX hbl hbA hS hg1 dL_law_1526 ?_
  refine lv_aload_n hx hb dL_law_1527 rfl (lv_at hl 2 rfl) ?_
  obtain ⟨X3, O4, v2, hf5, hk⟩ := b2_s hk
  refine wc_iSX0 (rest := []) (As := [.ref (Z.2.2 0 0), .int (xs ((ix + (1 : Int32))).toNatClampNeg), .ref (Z.2.2 56 0)]) ⟨hx, hb, hml, hown, hts⟩ (fun sz => k_L_days l hfl Z hZ X M O (xs ((ix + (1 : Int32))).toNatClampNeg) X3 O4 v2 hf5 sz) (cw_RL_294 (args := _) (s := s) hts (Nat.le_of_ble_eq_true rfl) (Nat.le_of_ble_eq_true rfl)) hE hP hK hS  rfl hl.1 rfl (Nat.le_of_ble_eq_true rfl) dL_law_1528 ⟨by show _ ≤ 603072; omega, by show _ ≤ 7223402; omega⟩ (fun H locs hP hS => ?_)
  refine lv_istore (lv' := [(6, .int v2), (5, .int ix), (4, .ref (Z.2.2 57 0)), (3, .ref (Z.2.2 56 0)), (2, .ref (Z.2.2 26 0)), (1, .ref (Z.2.2 0 0)), (0, .ref b)]) hx hb dL_law_1531 hl (by decide) rfl (fun ls hl => ?_)
  refine lv_aload_n hx hb dL_law_1533 rfl (lv_at hl 4 rfl) ?_
  refine lv_aload_n hx hb dL_law_1534 rfl (lv_at hl 6 rfl) ?_
  refine lv_iload hx hb dL_law_1535 (lv_at hl 1 rfl) ?_
  refine lv_iconst (v := (1 : Int32)) hx hb dL_law_1537 (by decide) ?_
  refine lv_iadd hx hb dL_law_1538 ?_
  obtain ⟨hg6, hk⟩ := gd_s hk
  refine va_sld hx hb hX hbl hbA hS hg6 dL_law_1539 ?_
  obtain ⟨M8, v7, hf9, hk⟩ := b1_s hk
  refine wc_iV0 (rest := []) (As := [.int (xs ((ix + (1 : Int32))).toNatClampNeg)]) ⟨hx, hb, hml, hown, hts⟩ (fun sz => k_X7_days l hfl Z hZ X3 M O4 (xs ((ix + (1 : Int32))).toNatClampNeg) M8 v7 hf9 sz) (cw_RL_296 (args := _) (s := s) hts (Nat.le_of_ble_eq_true rfl) (Nat.le_of_ble_eq_true rfl)) hE hP hK hS (rv_26 hK hP (by decide)) rfl hl.1 rfl (Nat.le_of_ble_eq_true rfl) dL_law_1540 ⟨by show _ ≤ 603072; omega, by show _ ≤ 7223402; omega⟩ (fun H locs hP hS => ?_)
  refine lv_istore (lv' := [(7, .int v7), (6, .int v2), (5, .int ix), (4, .ref (Z.2.2 57 0)), (3, .ref (Z.2.2 56 0)), (2, .ref (Z.2.2 26 0)), (1, .ref (Z.2.2 0 0)), (0, .ref b)]) hx hb dL_law_1543 hl (by decide) rfl (fun ls hl => ?_)
  refine lv_goto (tgt := 1620) hx hb dL_law_1545 (by decide) ?_
  refine lv_iinc (v := (ix + (4 : Int32))) (lv' := [(5, .int (ix + (4 : Int32))), (7, .int v7), (6, .int v2), (4, .ref (Z.2.2 57 0)), (3, .ref (Z.2.2 56 0)), (2, .ref (Z.2.2 26 0)), (1, .ref (Z.2.2 0 0)), (0, .ref b)]) hx hb dL_law_1620 hl (k := 2) rfl rfl (by decide) rfl (fun ls hl => ?_)
  refine lv_goto (tgt := 28) hx hb dL_law_1623 (by decide) ?_
  refine W.widen (k := cells + 3) (n := slots + 18) (by omega) (by omega) ?_
  exact hrc _ _ _ _ _ _ _ hk hP hS (lv_sub hl [0, 3, 4, 5, 6, 7] rfl)
set_option maxHeartbeats 4000000 in
set_option maxRecDepth 100000 in
theorem law_C41 (hfl : l.stackTraces = false) (hZ : wD Z) (hx : p.tables.exec = Jvm.exec) (hb : c.code = code) (hml : c.maxLocals = 9) (hown : s.vm.findClass RL = some m.cls) (hts : ∀ w ∈ lw_all, w.before #[Value.ref b] s = true) (hE : EV (wA Z s.heap.size) s) (hK : wK Z s) (hX : va_X b L xs s s.heap) (hbl : b < s.heap.size) (hbA : ¬ wA Z s.heap.size b) {rc : Int32 → SS → SS → SS → Option Unit} {cells slots : Nat} (hcc : cells + 3 ≤ 603072) (hss : slots + 18 ≤ 7223402) (hrc : ∀ (ix : Int32) (X M O : SS) (H : Heap) (locs : List Loc) (ls : Array Slot), rc ix X M O = some () → wP Z (X, M, O) H → va_S (wA Z s.heap.size) s.heap H locs → lv_has ls 9 [(5, .int ix), (4, .ref (Z.2.2 57 0)), (3, .ref (Z.2.2 56 0)), (2, .ref (Z.2.2 26 0)), (1, .ref (Z.2.2 0 0)), (0, .ref b)] → W p l e room_1 s m #[Value.ref b] below meth c H locs (cells + 3) (slots + 18) Q (F0 m 28 ls [])) (ix : Int32) (X M O : SS) (H : Heap) (locs : List Loc) (ls : Array Slot) (hk : f_law_C41 xs L ix X M O rc = some ()) (hP : wP Z (X, M, O) H) (hS : va_S (wA Z s.heap.size) s.heap H locs) (hl : lv_has ls 9 [(5, .int ix), (4, .ref (Z.2.2 57 0)), (3, .ref (Z.2.2 56 0)), (2, .ref (Z.2.2 26 0)), (1, .ref (Z.2.2 0 0)), (0, .ref b)]) : W p l e room_1 s m #[Value.ref b] below meth c H locs cells slots Q (F0 m 1548 ls []) := by
  unfold f_law_C41 at hk
  refine lv_aload_n hx hb dL_law_1548 rfl (lv_at hl 4 rfl) ?_
  obtain ⟨v1, hf2, hk⟩ := b0_s hk
  refine wc_lV0 (rest := []) (As := []) ⟨hx, hb, hml, hown, hts⟩ (fun sz => k_X6_checksum l hfl Z hZ X M O v1 hf2 sz) (cw_RL_297 (args := _) (s := s) hts (Nat.le_of_ble_eq_true rfl) (Nat.le_of_ble_eq_true rfl)) hE hP hK hS (rv_0 hK hP (by decide)) rfl hl.1 rfl (Nat.le_of_ble_eq_true rfl) dL_law_1549 ⟨by show _ ≤ 603072; omega, by show _ ≤ 7223402; omega⟩ (fun H locs hP hS => ?_)
  refine lv_pop2_2 hx hb dL_law_1552 rfl ?_
  refine lv_aload_n hx hb dL_law_1553 rfl (lv_at hl 3 rfl) ?_
  obtain ⟨M4, v3, hf5, hk⟩ := b1_s hk
  refine wc_lV0 (rest := []) (As := []) ⟨hx, hb, hml, hown, hts⟩ (fun sz => k_X7_checksum l hfl Z hZ X M O M4 v3 hf5 sz) (cw_RL_301 (args := _) (s := s) hts (Nat.le_of_ble_eq_true rfl) (Nat.le_of_ble_eq_true rfl)) hE hP hK hS (rv_26 hK hP (by decide)) rfl hl.1 rfl (Nat.le_of_ble_eq_true rfl) dL_law_1554 ⟨by show _ ≤ 603072; omega, by show _ ≤ 7223402; omega⟩ (fun H locs hP hS => ?_)
  refine lv_pop2_2 hx hb dL_law_1557 rfl ?_
  refine lv_goto (tgt := 1620) hx hb dL_law_1558 (by decide) ?_
  refine lv_iinc (v := (ix + (4 : Int32))) (lv' := [(5, .int (ix + (4 : Int32))), (4, .ref (Z.2.2 57 0)), (3, .ref (Z.2.2 56 0)), (2, .ref (Z.2.2 26 0)), (1, .ref (Z.2.2 0 0)), (0, .ref b)]) hx hb dL_law_1620 hl (k := 0) rfl rfl (by decide) rfl (fun ls hl => ?_)
  refine lv_goto (tgt := 28) hx hb dL_law_1623 (by decide) ?_
  refine W.widen (k := cells + 3) (n := slots + 18) (by omega) (by omega) ?_
  exact hrc _ _ _ _ _ _ _ hk hP hS (lv_sub hl [0, 1, 2, 3, 4, 5] rfl)
set_option maxHeartbeats 4000000 in
set_option maxRecDepth 100000 in
theorem law_C42 (hfl : l.stackTraces = false) (hZ : wD Z) (hx : p.tables.exec = Jvm.exec) (hb : c.code = code) (hml : c.maxLocals = 9) (hown : s.vm.findClass RL = some m.cls) (hts : ∀ w ∈ lw_all, w.before #[Value.ref b] s = true) (hE : EV (wA Z s.heap.size) s) (hK : wK Z s) (hX : va_X b L xs s s.heap) (hbl : b < s.heap.size) (hbA : ¬ wA Z s.heap.size b) {rc : Int32 → SS → SS → SS → Option Unit} {cells slots : Nat} (hcc : cells + 3 ≤ 603072) (hss : slots + 18 ≤ 7223402) (hrc : ∀ (ix : Int32) (X M O : SS) (H : Heap) (locs : List Loc) (ls : Array Slot), rc ix X M O = some () → wP Z (X, M, O) H → va_S (wA Z s.heap.size) s.heap H locs → lv_has ls 9 [(5, .int ix), (4, .ref (Z.2.2 57 0)), (3, .ref (Z.2.2 56 0)), (2, .ref (Z.2.2 26 0)), (1, .ref (Z.2.2 0 0)), (0, .ref b)] → W p l e room_1 s m #[Value.ref b] below meth c H locs (cells + 3) (slots + 18) Q (F0 m 28 ls [])) (ix : Int32) (X M O : SS) (H : Heap) (locs : List Loc) (ls : Array Slot) (hk : f_law_C42 xs L ix X M O rc = some ()) (hP : wP Z (X, M, O) H) (hS : va_S (wA Z s.heap.size) s.heap H locs) (hl : lv_has ls 9 [(5, .int ix), (4, .ref (Z.2.2 57 0)), (3, .ref (Z.2.2 56 0)), (2, .ref (Z.2.2 26 0)), (1, .ref (Z.2.2 0 0)), (0, .ref b)]) : W p l e room_1 s m #[Value.ref b] below meth c H locs cells slots Q (F0 m 1561 ls []) := by
  unfold f_law_C42 at hk
  refine lv_aload_n hx hb dL_law_1561 rfl (lv_at hl 4 rfl) ?_
  refine lv_aload hx hb dL_law_1562 (lv_at hl 1 rfl) ?_
  obtain ⟨O2, v1, hf3, hk⟩ := b1_s hk
  refine wc_iSX0 (rest := []) (As := [.ref (Z.2.2 0 0), .ref (Z.2.2 57 0)]) ⟨hx, hb, hml, hown, hts⟩ (fun sz => k_L_standingShare l hfl Z hZ X M O O2 v1 hf3 sz) (cw_RL_302 (args := _) (s := s) hts (Nat.le_of_ble_eq_true rfl) (Nat.le_of_ble_eq_true rfl)) hE hP hK hS  rfl hl.1 rfl (Nat.le_of_ble_eq_true rfl) dL_law_1564 ⟨by show _ ≤ 603072; omega, by show _ ≤ 7223402; omega⟩ (fun H locs hP hS => ?_)
  refine lv_istore (lv' := [(6, .int v1), (5, .int ix), (4, .ref (Z.2.2 57 0)), (3, .ref (Z.2.2 56 0)), (2, .ref (Z.2.2 26 0)), (1, .ref (Z.2.2 0 0)), (0, .ref b)]) hx hb dL_law_1567 hl (by decide) rfl (fun ls hl => ?_)
  refine lv_aload_n hx hb dL_law_1569 rfl (lv_at hl 4 rfl) ?_
  obtain ⟨M5, v4, hf6, hk⟩ := b1_s hk
  refine wc_fV0 (rest := []) (As := []) ⟨hx, hb, hml, hown, hts⟩ (fun sz => k_X7_standingShare l hfl Z hZ X M O2 M5 v4 hf6 sz) (cw_RL_305 (args := _) (s := s) hts (Nat.le_of_ble_eq_true rfl) (Nat.le_of_ble_eq_true rfl)) hE hP hK hS (rv_26 hK hP (by decide)) rfl hl.1 rfl (Nat.le_of_ble_eq_true rfl) dL_law_1570 ⟨by show _ ≤ 603072; omega, by show _ ≤ 7223402; omega⟩ (fun H locs hP hS => ?_)
  refine lv_fstore (lv' := [(7, .float v4), (6, .int v1), (5, .int ix), (4, .ref (Z.2.2 57 0)), (3, .ref (Z.2.2 56 0)), (2, .ref (Z.2.2 26 0)), (1, .ref (Z.2.2 0 0)), (0, .ref b)]) hx hb dL_law_1573 hl (by decide) rfl (fun ls hl => ?_)
  refine lv_goto (tgt := 1620) hx hb dL_law_1575 (by decide) ?_
  refine lv_iinc (v := (ix + (4 : Int32))) (lv' := [(5, .int (ix + (4 : Int32))), (7, .float v4), (6, .int v1), (4, .ref (Z.2.2 57 0)), (3, .ref (Z.2.2 56 0)), (2, .ref (Z.2.2 26 0)), (1, .ref (Z.2.2 0 0)), (0, .ref b)]) hx hb dL_law_1620 hl (k := 2) rfl rfl (by decide) rfl (fun ls hl => ?_)
  refine lv_goto (tgt := 28) hx hb dL_law_1623 (by decide) ?_
  refine W.widen (k := cells + 3) (n := slots + 18) (by omega) (by omega) ?_
  exact hrc _ _ _ _ _ _ _ hk hP hS (lv_sub hl [0, 3, 4, 5, 6, 7] rfl)
set_option maxHeartbeats 4000000 in
set_option maxRecDepth 100000 in
theorem law_C43 (hfl : l.stackTraces = false) (hZ : wD Z) (hx : p.tables.exec = Jvm.exec) (hb : c.code = code) (hml : c.maxLocals = 9) (hown : s.vm.findClass RL = some m.cls) (hts : ∀ w ∈ lw_all, w.before #[Value.ref b] s = true) (hE : EV (wA Z s.heap.size) s) (hK : wK Z s) (hX : va_X b L xs s s.heap) (hbl : b < s.heap.size) (hbA : ¬ wA Z s.heap.size b) {rc : Int32 → SS → SS → SS → Option Unit} {cells slots : Nat} (hcc : cells + 3 ≤ 603072) (hss : slots + 18 ≤ 7223402) (hrc : ∀ (ix : Int32) (X M O : SS) (H : Heap) (locs : List Loc) (ls : Array Slot), rc ix X M O = some () → wP Z (X, M, O) H → va_S (wA Z s.heap.size) s.heap H locs → lv_has ls 9 [(5, .int ix), (4, .ref (Z.2.2 57 0)), (3, .ref (Z.2.2 56 0)), (2, .ref (Z.2.2 26 0)), (1, .ref (Z.2.2 0 0)), (0, .ref b)] → W p l e room_1 s m #[Value.ref b] below meth c H locs (cells + 3) (slots + 18) Q (F0 m 28 ls [])) (ix : Int32) (X M O : SS) (H : Heap) (locs : List Loc) (ls : Array Slot) (hk : f_law_C43 xs L ix X M O rc = some ()) (hP : wP Z (X, M, O) H) (hS : va_S (wA Z s.heap.size) s.heap H locs) (hl : lv_has ls 9 [(5, .int ix), (4, .ref (Z.2.2 57 0)), (3, .ref (Z.2.2 56 0)), (2, .ref (Z.2.2 26 0)), (1, .ref (Z.2.2 0 0)), (0, .ref b)]) : W p l e room_1 s m #[Value.ref b] below meth c H locs cells slots Q (F0 m 1578 ls []) := by
  unfold f_law_C43 at hk
  refine lv_aload_n hx hb dL_law_1578 rfl (lv_at hl 4 rfl) ?_
  refine lv_aload_n hx hb dL_law_1579 rfl (lv_at hl 5 rfl) ?_
  refine lv_iload hx hb dL_law_1580 (lv_at hl 0 rfl) ?_
  refine lv_iconst (v := (1 : Int32)) hx hb dL_law_1582 (by decide) ?_
  refine lv_iadd hx hb dL_law_1583 ?_
  obtain ⟨hg1, hk⟩ := gd_s hk
  refine va_sld hx hb hX hbl hbA hS hg1 dL_law_1584 ?_
  refine lv_aload hx hb dL_law_1585 (lv_at hl 1 rfl) ?_
  obtain ⟨X3, O4, v2, hf5, hk⟩ := b2_s hk
  refine wc_iSX0 (rest := []) (As := [.ref (Z.2.2 0 0), .int (xs ((ix + (1 : Int32))).toNatClampNeg), .ref (Z.2.2 57 0)]) ⟨hx, hb, hml, hown, hts⟩ (fun sz => k_L_meanSteps l hfl Z hZ X M O (xs ((ix + (1 : Int32))).toNatClampNeg) X3 O4 v2 hf5 sz) (cw_RL_306 (args := _) (s := s) hts (Nat.le_of_ble_eq_true rfl) (Nat.le_of_ble_eq_true rfl)) hE hP hK hS  rfl hl.1 rfl (Nat.le_of_ble_eq_true rfl) dL_law_1587 ⟨by show _ ≤ 603072; omega, by show _ ≤ 7223402; omega⟩ (fun H locs hP hS => ?_)
  refine lv_istore (lv' := [(6, .int v2), (5, .int ix), (4, .ref (Z.2.2 57 0)), (3, .ref (Z.2.2 56 0)), (2, .ref (Z.2.2 26 0)), (1, .ref (Z.2.2 0 0)), (0, .ref b)]) hx hb dL_law_1590 hl (by decide) rfl (fun ls hl => ?_)
  refine lv_aload_n hx hb dL_law_1592 rfl (lv_at hl 4 rfl) ?_
  refine lv_aload_n hx hb dL_law_1593 rfl (lv_at hl 6 rfl) ?_
  refine lv_iload hx hb dL_law_1594 (lv_at hl 1 rfl) ?_
  refine lv_iconst (v := (1 : Int32)) hx hb dL_law_1596 (by decide) ?_
  refine lv_iadd hx hb dL_law_1597 ?_
  obtain ⟨hg6, hk⟩ := gd_s hk
  refine va_sld hx hb hX hbl hbA hS hg6 dL_law_1598 ?_
  obtain ⟨M8, v7, hf9, hk⟩ := b1_s hk
  refine wc_dV0 (rest := []) (As := [.int (xs ((ix + (1 : Int32))).toNatClampNeg)]) ⟨hx, hb, hml, hown, hts⟩ (fun sz => k_X7_meanSteps l hfl Z hZ X3 M O4 (xs ((ix + (1 : Int32))).toNatClampNeg) M8 v7 hf9 sz) (cw_RL_308 (args := _) (s := s) hts (Nat.le_of_ble_eq_true rfl) (Nat.le_of_ble_eq_true rfl)) hE hP hK hS (rv_26 hK hP (by decide)) rfl hl.1 rfl (Nat.le_of_ble_eq_true rfl) dL_law_1599 ⟨by show _ ≤ 603072; omega, by show _ ≤ 7223402; omega⟩ (fun H locs hP hS => ?_)
  refine lv_dstore (lv' := [(7, .double v7), (6, .int v2), (5, .int ix), (4, .ref (Z.2.2 57 0)), (3, .ref (Z.2.2 56 0)), (2, .ref (Z.2.2 26 0)), (1, .ref (Z.2.2 0 0)), (0, .ref b)]) hx hb dL_law_1602 hl (by decide) rfl (fun ls hl => ?_)
  refine lv_goto (tgt := 1620) hx hb dL_law_1604 (by decide) ?_
  refine lv_iinc (v := (ix + (4 : Int32))) (lv' := [(5, .int (ix + (4 : Int32))), (7, .double v7), (6, .int v2), (4, .ref (Z.2.2 57 0)), (3, .ref (Z.2.2 56 0)), (2, .ref (Z.2.2 26 0)), (1, .ref (Z.2.2 0 0)), (0, .ref b)]) hx hb dL_law_1620 hl (k := 2) rfl rfl (by decide) rfl (fun ls hl => ?_)
  refine lv_goto (tgt := 28) hx hb dL_law_1623 (by decide) ?_
  refine W.widen (k := cells + 3) (n := slots + 18) (by omega) (by omega) ?_
  exact hrc _ _ _ _ _ _ _ hk hP hS (lv_sub hl [0, 3, 4, 5, 6, 7] rfl)
set_option maxHeartbeats 4000000 in
set_option maxRecDepth 100000 in
theorem law_C44 (hfl : l.stackTraces = false) (hZ : wD Z) (hx : p.tables.exec = Jvm.exec) (hb : c.code = code) (hml : c.maxLocals = 9) (hown : s.vm.findClass RL = some m.cls) (hts : ∀ w ∈ lw_all, w.before #[Value.ref b] s = true) (hE : EV (wA Z s.heap.size) s) (hK : wK Z s) (hX : va_X b L xs s s.heap) (hbl : b < s.heap.size) (hbA : ¬ wA Z s.heap.size b) {rc : Int32 → SS → SS → SS → Option Unit} {cells slots : Nat} (hcc : cells + 3 ≤ 603072) (hss : slots + 18 ≤ 7223402) (hrc : ∀ (ix : Int32) (X M O : SS) (H : Heap) (locs : List Loc) (ls : Array Slot), rc ix X M O = some () → wP Z (X, M, O) H → va_S (wA Z s.heap.size) s.heap H locs → lv_has ls 9 [(5, .int ix), (4, .ref (Z.2.2 57 0)), (3, .ref (Z.2.2 56 0)), (2, .ref (Z.2.2 26 0)), (1, .ref (Z.2.2 0 0)), (0, .ref b)] → W p l e room_1 s m #[Value.ref b] below meth c H locs (cells + 3) (slots + 18) Q (F0 m 28 ls [])) (ix : Int32) (X M O : SS) (H : Heap) (locs : List Loc) (ls : Array Slot) (hk : f_law_C44 xs L ix X M O rc = some ()) (hP : wP Z (X, M, O) H) (hS : va_S (wA Z s.heap.size) s.heap H locs) (hl : lv_has ls 9 [(5, .int ix), (4, .ref (Z.2.2 57 0)), (3, .ref (Z.2.2 56 0)), (2, .ref (Z.2.2 26 0)), (1, .ref (Z.2.2 0 0)), (0, .ref b)]) : W p l e room_1 s m #[Value.ref b] below meth c H locs cells slots Q (F0 m 1607 ls []) := by
  unfold f_law_C44 at hk
  refine lv_aload_n hx hb dL_law_1607 rfl (lv_at hl 4 rfl) ?_
  obtain ⟨X2, v1, hf3, hk⟩ := b1_s hk
  refine wc_iV0 (rest := []) (As := []) ⟨hx, hb, hml, hown, hts⟩ (fun sz => k_X6_isSound l hfl Z hZ X M O X2 v1 hf3 sz) (cw_RL_309 (args := _) (s := s) hts (Nat.le_of_ble_eq_true rfl) (Nat.le_of_ble_eq_true rfl)) hE hP hK hS (rv_0 hK hP (by decide)) rfl hl.1 rfl (Nat.le_of_ble_eq_true rfl) dL_law_1608 ⟨by show _ ≤ 603072; omega, by show _ ≤ 7223402; omega⟩ (fun H locs hP hS => ?_)
  refine lv_pop hx hb dL_law_1611 rfl ?_
  refine lv_aload_n hx hb dL_law_1612 rfl (lv_at hl 3 rfl) ?_
  obtain ⟨M5, v4, hf6, hk⟩ := b1_s hk
  refine wc_iV0 (rest := []) (As := []) ⟨hx, hb, hml, hown, hts⟩ (fun sz => k_X7_isSound l hfl Z hZ X2 M O M5 v4 hf6 sz) (cw_RL_313 (args := _) (s := s) hts (Nat.le_of_ble_eq_true rfl) (Nat.le_of_ble_eq_true rfl)) hE hP hK hS (rv_26 hK hP (by decide)) rfl hl.1 rfl (Nat.le_of_ble_eq_true rfl) dL_law_1613 ⟨by show _ ≤ 603072; omega, by show _ ≤ 7223402; omega⟩ (fun H locs hP hS => ?_)
  refine lv_pop hx hb dL_law_1616 rfl ?_
  refine lv_goto (tgt := 1620) hx hb dL_law_1617 (by decide) ?_
  refine lv_iinc (v := (ix + (4 : Int32))) (lv' := [(5, .int (ix + (4 : Int32))), (4, .ref (Z.2.2 57 0)), (3, .ref (Z.2.2 56 0)), (2, .ref (Z.2.2 26 0)), (1, .ref (Z.2.2 0 0)), (0, .ref b)]) hx hb dL_law_1620 hl (k := 0) rfl rfl (by decide) rfl (fun ls hl => ?_)
  refine lv_goto (tgt := 28) hx hb dL_law_1623 (by decide) ?_
  refine W.widen (k := cells + 3) (n := slots + 18) (by omega) (by omega) ?_
  exact hrc _ _ _ _ _ _ _ hk hP hS (lv_sub hl [0, 1, 2, 3, 4, 5] rfl)