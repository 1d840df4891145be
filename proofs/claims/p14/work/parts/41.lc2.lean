variable {p : Program} {l : Launch} {e : Env} {s : State} {m : MethodId} {below : List Frame} {meth : Method} {c : Code} {Q : State → Prop} {Z : ZT} {b L : Nat} {xs : Nat → Int32}
set_option maxHeartbeats 4000000 in
set_option maxRecDepth 100000 in
theorem law_C30 (hfl : l.stackTraces = false) (hZ : wD Z) (hx : p.tables.exec = Jvm.exec) (hb : c.code = code) (hml : c.maxLocals = 9) (hown : s.vm.findClass RL = some m.cls) (hts : ∀ w ∈ lw_all, w.before #[Value.ref b] s = true) (hE : EV (wA Z s.heap.size) s) (hK : wK Z s) (hX : va_X b L xs s s.heap) (hbl : b < s.heap.size) (hbA : ¬ wA Z s.heap.size b) {rc : Int32 → SS → SS → SS → Option Unit} {cells slots : Nat} (hcc : cells + 3 ≤ 603072) (hss : slots + 18 ≤ 7223402) (hrc : ∀ (ix : Int32) (X M O : SS) (H : Heap) (locs : List Loc) (ls : Array Slot), rc ix X M O = some () → wP Z (X, M, O) H → va_S (wA Z s.heap.size) s.heap H locs → lv_has ls 9 [(5, .int ix), (4, .ref (Z.2.2 57 0)), (3, .ref (Z.2.2 56 0)), (2, .ref (Z.2.2 26 0)), (1, .ref (Z.2.2 0 0)), (0, .ref b)] → W p l e room_1 s m #[Value.ref b] below meth c H locs (cells + 3) (slots + 18) Q (F0 m 28 ls [])) (ix : Int32) (X M O : SS) (H : Heap) (locs : List Loc) (ls : Array Slot) (hk : f_law_C30 xs L ix X M O rc = some ()) (hP : wP Z (X, M, O) H) (hS : va_S (wA Z s.heap.size) s.heap H locs) (hl : lv_has ls 9 [(5, .int ix), (4, .ref (Z.2.2 57 0)), (3, .ref (Z.2.2 56 0)), (2, .ref (Z.2.2 26 0)), (1, .ref (Z.2.2 0 0)), (0, .ref b)]) : W p l e room_1 s m #[Value.ref b] below meth c H locs cells slots Q (F0 m 1192 ls []) := by
  unfold f_law_C30 at hk
  refine lv_aload_n hx hb dL_law_1192 rfl (lv_at hl 4 rfl) ?_
  refine lv_aload_n hx hb dL_law_1193 rfl (lv_at hl 5 rfl) ?_
  refine lv_iload hx hb dL_law_1194 (lv_at hl 0 rfl) ?_
  refine lv_iconst (v := (1 : Int32)) hx hb dL_law_1196 (by decide) ?_
  refine lv_iadd hx hb dL_law_1197 ?_
  obtain ⟨hg1, hk⟩ := gd_s hk
  refine va_sld hx hb hX hbl hbA hS hg1 dL_law_1198 ?_
  refine lv_aload_n hx hb dL_law_1199 rfl (lv_at hl 5 rfl) ?_
  refine lv_iload hx hb dL_law_1200 (lv_at hl 0 rfl) ?_
  refine lv_iconst (v := (2 : Int32)) hx hb dL_law_1202 (by decide) ?_
  refine lv_iadd hx hb dL_law_1203 ?_
  obtain ⟨hg2, hk⟩ := gd_s hk
  refine va_sld hx hb hX hbl hbA hS hg2 dL_law_1204 ?_
  refine lv_aload_n hx hb dL_law_1205 rfl (lv_at hl 2 rfl) ?_
  obtain ⟨X4, O5, v3, hf6, hk⟩ := b2_s hk
  refine wc_iSX0 (rest := []) (As := [.ref (Z.2.2 0 0), .int (xs ((ix + (1 : Int32))).toNatClampNeg), .int (xs ((ix + (2 : Int32))).toNatClampNeg), .ref (Z.2.2 56 0)]) ⟨hx, hb, hml, hown, hts⟩ (fun sz => k_L_best l hfl Z hZ X M O (xs ((ix + (1 : Int32))).toNatClampNeg) (xs ((ix + (2 : Int32))).toNatClampNeg) X4 O5 v3 hf6 sz) (cw_RL_263 (args := _) (s := s) hts (Nat.le_of_ble_eq_true rfl) (Nat.le_of_ble_eq_true rfl)) hE hP hK hS  rfl hl.1 rfl (Nat.le_of_ble_eq_true rfl) dL_law_1206 ⟨by show _ ≤ 603072; omega, by show _ ≤ 7223402; omega⟩ (fun H locs hP hS => ?_)
  refine lv_istore (lv' := [(6, .int v3), (5, .int ix), (4, .ref (Z.2.2 57 0)), (3, .ref (Z.2.2 56 0)), (2, .ref (Z.2.2 26 0)), (1, .ref (Z.2.2 0 0)), (0, .ref b)]) hx hb dL_law_1209 hl (by decide) rfl (fun ls hl => ?_)
  refine lv_aload_n hx hb dL_law_1211 rfl (lv_at hl 4 rfl) ?_
  refine lv_aload_n hx hb dL_law_1212 rfl (lv_at hl 6 rfl) ?_
  refine lv_iload hx hb dL_law_1213 (lv_at hl 1 rfl) ?_
  refine lv_iconst (v := (1 : Int32)) hx hb dL_law_1215 (by decide) ?_
  refine lv_iadd hx hb dL_law_1216 ?_
  obtain ⟨hg7, hk⟩ := gd_s hk
  refine va_sld hx hb hX hbl hbA hS hg7 dL_law_1217 ?_
  refine lv_aload_n hx hb dL_law_1218 rfl (lv_at hl 6 rfl) ?_
  refine lv_iload hx hb dL_law_1219 (lv_at hl 1 rfl) ?_
  refine lv_iconst (v := (2 : Int32)) hx hb dL_law_1221 (by decide) ?_
  refine lv_iadd hx hb dL_law_1222 ?_
  obtain ⟨hg8, hk⟩ := gd_s hk
  refine va_sld hx hb hX hbl hbA hS hg8 dL_law_1223 ?_
  obtain ⟨M10, v9, hf11, hk⟩ := b1_s hk
  refine wc_iV0 (rest := []) (As := [.int (xs ((ix + (1 : Int32))).toNatClampNeg), .int (xs ((ix + (2 : Int32))).toNatClampNeg)]) ⟨hx, hb, hml, hown, hts⟩ (fun sz => k_X7_best l hfl Z hZ X4 M O5 (xs ((ix + (1 : Int32))).toNatClampNeg) (xs ((ix + (2 : Int32))).toNatClampNeg) M10 v9 hf11 sz) (cw_RL_265 (args := _) (s := s) hts (Nat.le_of_ble_eq_true rfl) (Nat.le_of_ble_eq_true rfl)) hE hP hK hS (rv_26 hK hP (by decide)) rfl hl.1 rfl (Nat.le_of_ble_eq_true rfl) dL_law_1224 ⟨by show _ ≤ 603072; omega, by show _ ≤ 7223402; omega⟩ (fun H locs hP hS => ?_)
  refine lv_istore (lv' := [(7, .int v9), (6, .int v3), (5, .int ix), (4, .ref (Z.2.2 57 0)), (3, .ref (Z.2.2 56 0)), (2, .ref (Z.2.2 26 0)), (1, .ref (Z.2.2 0 0)), (0, .ref b)]) hx hb dL_law_1227 hl (by decide) rfl (fun ls hl => ?_)
  refine lv_goto (tgt := 1621) hx hb dL_law_1229 (by decide) ?_
  refine lv_iinc (v := (ix + (4 : Int32))) (lv' := [(5, .int (ix + (4 : Int32))), (7, .int v9), (6, .int v3), (4, .ref (Z.2.2 57 0)), (3, .ref (Z.2.2 56 0)), (2, .ref (Z.2.2 26 0)), (1, .ref (Z.2.2 0 0)), (0, .ref b)]) hx hb dL_law_1621 hl (k := 2) rfl rfl (by decide) rfl (fun ls hl => ?_)
  refine lv_goto (tgt := 28) hx hb dL_law_1624 (by decide) ?_
  refine W.widen (k := cells + 3) (n := slots + 18) (by omega) (by omega) ?_
  exact hrc _ _ _ _ _ _ _ hk hP hS (lv_sub hl [0, 3, 4, 5, 6, 7] rfl)
set_option maxHeartbeats 4000000 in
set_option maxRecDepth 100000 in
theorem law_C31 (hfl : l.stackTraces = false) (hZ : wD Z) (hx : p.tables.exec = Jvm.exec) (hb : c.code = code) (hml : c.maxLocals = 9) (hown : s.vm.findClass RL = some m.cls) (hts : ∀ w ∈ lw_all, w.before #[Value.ref b] s = true) (hE : EV (wA Z s.heap.size) s) (hK : wK Z s) (hX : va_X b L xs s s.heap) (hbl : b < s.heap.size) (hbA : ¬ wA Z s.heap.size b) {rc : Int32 → SS → SS → SS → Option Unit} {cells slots : Nat} (hcc : cells + 3 ≤ 603072) (hss : slots + 18 ≤ 7223402) (hrc : ∀ (ix : Int32) (X M O : SS) (H : Heap) (locs : List Loc) (ls : Array Slot), rc ix X M O = some () → wP Z (X, M, O) H → va_S (wA Z s.heap.size) s.heap H locs → lv_has ls 9 [(5, .int ix), (4, .ref (Z.2.2 57 0)), (3, .ref (Z.2.2 56 0)), (2, .ref (Z.2.2 26 0)), (1, .ref (Z.2.2 0 0)), (0, .ref b)] → W p l e room_1 s m #[Value.ref b] below meth c H locs (cells + 3) (slots + 18) Q (F0 m 28 ls [])) (ix : Int32) (X M O : SS) (H : Heap) (locs : List Loc) (ls : Array Slot) (hk : f_law_C31 xs L ix X M O rc = some ()) (hP : wP Z (X, M, O) H) (hS : va_S (wA Z s.heap.size) s.heap H locs) (hl : lv_has ls 9 [(5, .int ix), (4, .ref (Z.2.2 57 0)), (3, .ref (Z.2.2 56 0)), (2, .ref (Z.2.2 26 0)), (1, .ref (Z.2.2 0 0)), (0, .ref b)]) : W p l e room_1 s m #[Value.ref b] below meth c H locs cells slots Q (F0 m 1232 ls []) := by
  unfold f_law_C31 at hk
  refine lv_aload_n hx hb dL_law_1232 rfl (lv_at hl 4 rfl) ?_
  refine lv_aload_n hx hb dL_law_1233 rfl (lv_at hl 5 rfl) ?_
  refine lv_iload hx hb dL_law_1234 (lv_at hl 0 rfl) ?_
  refine lv_iconst (v := (1 : Int32)) hx hb dL_law_1236 (by decide) ?_
  refine lv_iadd hx hb dL_law_1237 ?_
  obtain ⟨hg1, hk⟩ := gd_s hk
  refine va_sld hx hb hX hbl hbA hS hg1 dL_law_1238 ?_
  refine lv_aload hx hb dL_law_1239 (lv_at hl 1 rfl) ?_
  obtain ⟨X3, O4, v2, hf5, hk⟩ := b2_s hk
  refine wc_iSX0 (rest := []) (As := [.ref (Z.2.2 0 0), .int (xs ((ix + (1 : Int32))).toNatClampNeg), .ref (Z.2.2 57 0)]) ⟨hx, hb, hml, hown, hts⟩ (fun sz => k_L_points l hfl Z hZ X M O (xs ((ix + (1 : Int32))).toNatClampNeg) X3 O4 v2 hf5 sz) (cw_RL_266 (args := _) (s := s) hts (Nat.le_of_ble_eq_true rfl) (Nat.le_of_ble_eq_true rfl)) hE hP hK hS  rfl hl.1 rfl (Nat.le_of_ble_eq_true rfl) dL_law_1241 ⟨by show _ ≤ 603072; omega, by show _ ≤ 7223402; omega⟩ (fun H locs hP hS => ?_)
  refine lv_istore (lv' := [(6, .int v2), (5, .int ix), (4, .ref (Z.2.2 57 0)), (3, .ref (Z.2.2 56 0)), (2, .ref (Z.2.2 26 0)), (1, .ref (Z.2.2 0 0)), (0, .ref b)]) hx hb dL_law_1244 hl (by decide) rfl (fun ls hl => ?_)
  refine lv_aload_n hx hb dL_law_1246 rfl (lv_at hl 4 rfl) ?_
  refine lv_aload_n hx hb dL_law_1247 rfl (lv_at hl 6 rfl) ?_
  refine lv_iload hx hb dL_law_1248 (lv_at hl 1 rfl) ?_
  refine lv_iconst (v := (1 : Int32)) hx hb dL_law_1250 (by decide) ?_
  refine lv_iadd hx hb dL_law_1251 ?_
  obtain ⟨hg6, hk⟩ := gd_s hk
  refine va_sld hx hb hX hbl hbA hS hg6 dL_law_1252 ?_
  obtain ⟨M8, v7, hf9, hk⟩ := b1_s hk
  refine wc_fV0 (rest := []) (As := [.int (xs ((ix + (1 : Int32))).toNatClampNeg)]) ⟨hx, hb, hml, hown, hts⟩ (fun sz => k_X7_points l hfl Z hZ X3 M O4 (xs ((ix + (1 : Int32))).toNatClampNeg) M8 v7 hf9 sz) (cw_RL_269 (args := _) (s := s) hts (Nat.le_of_ble_eq_true rfl) (Nat.le_of_ble_eq_true rfl)) hE hP hK hS (rv_26 hK hP (by decide)) rfl hl.1 rfl (Nat.le_of_ble_eq_true rfl) dL_law_1253 ⟨by show _ ≤ 603072; omega, by show _ ≤ 7223402; omega⟩ (fun H locs hP hS => ?_)
  refine lv_fstore (lv' := [(7, .float v7), (6, .int v2), (5, .int ix), (4, .ref (Z.2.2 57 0)), (3, .ref (Z.2.2 56 0)), (2, .ref (Z.2.2 26 0)), (1, .ref (Z.2.2 0 0)), (0, .ref b)]) hx hb dL_law_1256 hl (by decide) rfl (fun ls hl => ?_)
  refine lv_goto (tgt := 1621) hx hb dL_law_1258 (by decide) ?_
  refine lv_iinc (v := (ix + (4 : Int32))) (lv' := [(5, .int (ix + (4 : Int32))), (7, .float v7), (6, .int v2), (4, .ref (Z.2.2 57 0)), (3, .ref (Z.2.2 56 0)), (2, .ref (Z.2.2 26 0)), (1, .ref (Z.2.2 0 0)), (0, .ref b)]) hx hb dL_law_1621 hl (k := 2) rfl rfl (by decide) rfl (fun ls hl => ?_)
  refine lv_goto (tgt := 28) hx hb dL_law_1624 (by decide) ?_
  refine W.widen (k := cells + 3) (n := slots + 18) (by omega) (by omega) ?_
  exact hrc _ _ _ _ _ _ _ hk hP hS (lv_sub hl [0, 3, 4, 5, 6, 7] rfl)
set_option maxHeartbeats 4000000 in
set_option maxRecDepth 100000 in
theorem law_C32 (hfl : l.stackTraces = false) (hZ : wD Z) (hx : p.tables.exec = Jvm.exec) (hb : c.code = code) (hml : c.maxLocals = 9) (hown : s.vm.findClass RL = some m.cls) (hts : ∀ w ∈ lw_all, w.before #[Value.ref b] s = true) (hE : EV (wA Z s.heap.size) s) (hK : wK Z s) (hX : va_X b L xs s s.heap) (hbl : b < s.heap.size) (hbA : ¬ wA Z s.heap.size b) {rc : Int32 → SS → SS → SS → Option Unit} {cells slots : Nat} (hcc : cells + 3 ≤ 603072) (hss : slots + 18 ≤ 7223402) (hrc : ∀ (ix : Int32) (X M O : SS) (H : Heap) (locs : List Loc) (ls : Array Slot), rc ix X M O = some () → wP Z (X, M, O) H → va_S (wA Z s.heap.size) s.heap H locs → lv_has ls 9 [(5, .int ix), (4, .ref (Z.2.2 57 0)), (3, .ref (Z.2.2 56 0)), (2, .ref (Z.2.2 26 0)), (1, .ref (Z.2.2 0 0)), (0, .ref b)] → W p l e room_1 s m #[Value.ref b] below meth c H locs (cells + 3) (slots + 18) Q (F0 m 28 ls [])) (ix : Int32) (X M O : SS) (H : Heap) (locs : List Loc) (ls : Array Slot) (hk : f_law_C32 xs L ix X M O rc = some ()) (hP : wP Z (X, M, O) H) (hS : va_S (wA Z s.heap.size) s.heap H locs) (hl : lv_has ls 9 [(5, .int ix), (4, .ref (Z.2.2 57 0)), (3, .ref (Z.2.2 56 0)), (2, .ref (Z.2.2 26 0)), (1, .ref (Z.2.2 0 0)), (0, .ref b)]) : W p l e room_1 s m #[Value.ref b] below meth c H locs cells slots Q (F0 m 1261 ls []) := by
  unfold f_law_C32 at hk
  refine lv_aload_n hx hb dL_law_1261 rfl (lv_at hl 4 rfl) ?_
  refine lv_aload_n hx hb dL_law_1262 rfl (lv_at hl 5 rfl) ?_
  refine lv_iload hx hb dL_law_1263 (lv_at hl 0 rfl) ?_
  refine lv_iconst (v := (1 : Int32)) hx hb dL_law_1265 (by decide) ?_
  refine lv_iadd hx hb dL_law_1266 ?_
  obtain ⟨hg1, hk⟩ := gd_s hk
  refine va_sld hx hb hX hbl hbA hS hg1 dL_law_1267 ?_
  refine lv_aload_n hx hb dL_law_1268 rfl (lv_at hl 2 rfl) ?_
  obtain ⟨X3, O4, v2, hf5, hk⟩ := b2_s hk
  refine wc_iSX0 (rest := []) (As := [.ref (Z.2.2 0 0), .int (xs ((ix + (1 : Int32))).toNatClampNeg), .ref (Z.2.2 56 0)]) ⟨hx, hb, hml, hown, hts⟩ (fun sz => k_L_belt l hfl Z hZ X M O (xs ((ix + (1 : Int32))).toNatClampNeg) X3 O4 v2 hf5 sz) (cw_RL_270 (args := _) (s := s) hts (Nat.le_of_ble_eq_true rfl) (Nat.le_of_ble_eq_true rfl)) hE hP hK hS  rfl hl.1 rfl (Nat.le_of_ble_eq_true rfl) dL_law_1269 ⟨by show _ ≤ 603072; omega, by show _ ≤ 7223402; omega⟩ (fun H locs hP hS => ?_)
  refine lv_istore (lv' := [(6, .int v2), (5, .int ix), (4, .ref (Z.2.2 57 0)), (3, .ref (Z.2.2 56 0)), (2, .ref (Z.2.2 26 0)), (1, .ref (Z.2.2 0 0)), (0, .ref b)]) hx hb dL_law_1272 hl (by decide) rfl (fun ls hl => ?_)
  refine lv_aload_n hx hb dL_law_1274 rfl (lv_at hl 4 rfl) ?_
  refine lv_aload_n hx hb dL_law_1275 rfl (lv_at hl 6 rfl) ?_
  refine lv_iload hx hb dL_law_1276 (lv_at hl 1 rfl) ?_
  refine lv_iconst (v := (1 : Int32)) hx hb dL_law_1278 (by decide) ?_
  refine lv_iadd hx hb dL_law_1279 ?_
  obtain ⟨hg6, hk⟩ := gd_s hk
  refine va_sld hx hb hX hbl hbA hS hg6 dL_law_1280 ?_
  obtain ⟨M8, v7, hf9, hk⟩ := b1_s hk
  refine wc_iV0 (rest := []) (As := [.int (xs ((ix + (1 : Int32))).toNatClampNeg)]) ⟨hx, hb, hml, hown, hts⟩ (fun sz => k_X7_belt l hfl Z hZ X3 M O4 (xs ((ix + (1 : Int32))).toNatClampNeg) M8 v7 hf9 sz) (cw_RL_272 (args := _) (s := s) hts (Nat.le_of_ble_eq_true rfl) (Nat.le_of_ble_eq_true rfl)) hE hP hK hS (rv_26 hK hP (by decide)) rfl hl.1 rfl (Nat.le_of_ble_eq_true rfl) dL_law_1281 ⟨by show _ ≤ 603072; omega, by show _ ≤ 7223402; omega⟩ (fun H locs hP hS => ?_)
  refine lv_istore (lv' := [(7, .int v7), (6, .int v2), (5, .int ix), (4, .ref (Z.2.2 57 0)), (3, .ref (Z.2.2 56 0)), (2, .ref (Z.2.2 26 0)), (1, .ref (Z.2.2 0 0)), (0, .ref b)]) hx hb dL_law_1284 hl (by decide) rfl (fun ls hl => ?_)
  refine lv_goto (tgt := 1621) hx hb dL_law_1286 (by decide) ?_
  refine lv_iinc (v := (ix + (4 : Int32))) (lv' := [(5, .int (ix + (4 : Int32))), (7, .int v7), (6, .int v2), (4, .ref (Z.2.2 57 0)), (3, .ref (Z.2.2 56 0)), (2, .ref (Z.2.2 26 0)), (1, .ref (Z.2.2 0 0)), (0, .ref b)]) hx hb dL_law_1621 hl (k := 2) rfl rfl (by decide) rfl (fun ls hl => ?_)
  refine lv_goto (tgt := 28) hx hb dL_law_1624 (by decide) ?_
  refine W.widen (k := cells + 3) (n := slots + 18) (by omega) (by omega) ?_
  exact hrc _ _ _ _ _ _ _ hk hP hS (lv_sub hl [0, 3, 4, 5, 6, 7] rfl)
set_option maxHeartbeats 4000000 in
set_option maxRecDepth 100000 in
theorem law_C33 (hfl : l.stackTraces = false) (hZ : wD Z) (hx : p.tables.exec = Jvm.exec) (hb : c.code = code) (hml : c.maxLocals = 9) (hown : s.vm.findClass RL = some m.cls) (hts : ∀ w ∈ lw_all, w.before #[Value.ref b] s = true) (hE : EV (wA Z s.heap.size) s) (hK : wK Z s) (hX : va_X b L xs s s.heap) (hbl : b < s.heap.size) (hbA : ¬ wA Z s.heap.size b) {rc : Int32 → SS → SS → SS → Option Unit} {cells slots : Nat} (hcc : cells + 3 ≤ 603072) (hss : slots + 18 ≤ 7223402) (hrc : ∀ (ix : Int32) (X M O : SS) (H : Heap) (locs : List Loc) (ls : Array Slot), rc ix X M O = some () → wP Z (X, M, O) H → va_S (wA Z s.heap.size) s.heap H locs → lv_has ls 9 [(5, .int ix), (4, .ref (Z.2.2 57 0)), (3, .ref (Z.2.2 56 0)), (2, .ref (Z.2.2 26 0)), (1, .ref (Z.2.2 0 0)), (0, .ref b)] → W p l e room_1 s m #[Value.ref b] below meth c H locs (cells + 3) (slots + 18) Q (F0 m 28 ls [])) (ix : Int32) (X M O : SS) (H : Heap) (locs : List Loc) (ls : Array Slot) (hk : f_law_C33 xs L ix X M O rc = some ()) (hP : wP Z (X, M, O) H) (hS : va_S (wA Z s.heap.size) s.heap H locs) (hl : lv_has ls 9 [(5, .int ix), (4, .ref (Z.2.2 57 0)), (3, .ref (Z.2.2 56 0)), (2, .ref (Z.2.2 26 0)), (1, .ref (Z.2.2 0 0)), (0, .ref b)]) : W p l e room_1 s m #[Value.ref b] below meth c H locs cells slots Q (F0 m 1289 ls []) := by
  unfold f_law_C33 at hk
  refine lv_aload_n hx hb dL_law_1289 rfl (lv_at hl 4 rfl) ?_
  refine lv_aload_n hx hb dL_law_1290 rfl (lv_at hl 5 rfl) ?_
  refine lv_iload hx hb dL_law_1291 (lv_at hl 0 rfl) ?_
  refine lv_iconst (v := (1 : Int32)) hx hb dL_law_1293 (by decide) ?_
  refine lv_iadd hx hb dL_law_1294 ?_
  obtain ⟨hg1, hk⟩ := gd_s hk
  refine va_sld hx hb hX hbl hbA hS hg1 dL_law_1295 ?_
  refine lv_aload_n hx hb dL_law_1296 rfl (lv_at hl 2 rfl) ?_
  obtain ⟨O3, v2, hf4, hk⟩ := b1_s hk
  refine wc_iSX0 (rest := []) (As := [.ref (Z.2.2 0 0), .int (xs ((ix + (1 : Int32))).toNatClampNeg), .ref (Z.2.2 56 0)]) ⟨hx, hb, hml, hown, hts⟩ (fun sz => k_L_honour l hfl Z hZ X M O (xs ((ix + (1 : Int32))).toNatClampNeg) O3 v2 hf4 sz) (cw_RL_273 (args := _) (s := s) hts (Nat.le_of_ble_eq_true rfl) (Nat.le_of_ble_eq_true rfl)) hE hP hK hS  rfl hl.1 rfl (Nat.le_of_ble_eq_true rfl) dL_law_1297 ⟨by show _ ≤ 603072; omega, by show _ ≤ 7223402; omega⟩ (fun H locs hP hS => ?_)
  refine lv_istore (lv' := [(6, .int v2), (5, .int ix), (4, .ref (Z.2.2 57 0)), (3, .ref (Z.2.2 56 0)), (2, .ref (Z.2.2 26 0)), (1, .ref (Z.2.2 0 0)), (0, .ref b)]) hx hb dL_law_1300 hl (by decide) rfl (fun ls hl => ?_)
  refine lv_aload_n hx hb dL_law_1302 rfl (lv_at hl 4 rfl) ?_
  refine lv_aload_n hx hb dL_law_1303 rfl (lv_at hl 6 rfl) ?_
  refine lv_iload hx hb dL_law_1304 (lv_at hl 1 rfl) ?_
  refine lv_iconst (v := (1 : Int32)) hx hb dL_law_1306 (by decide) ?_
  refine lv_iadd hx hb dL_law_1307 ?_
  obtain ⟨hg5, hk⟩ := gd_s hk
  refine va_sld hx hb hX hbl hbA hS hg5 dL_law_1308 ?_
  obtain ⟨M7, v6, hf8, hk⟩ := b1_s hk
  refine wc_iV0 (rest := []) (As := [.int (xs ((ix + (1 : Int32))).toNatClampNeg)]) ⟨hx, hb, hml, hown, hts⟩ (fun sz => k_X7_honour l hfl Z hZ X M O3 (xs ((ix + (1 : Int32))).toNatClampNeg) M7 v6 hf8 sz) (cw_RL_275 (args := _) (s := s) hts (Nat.le_of_ble_eq_true rfl) (Nat.le_of_ble_eq_true rfl)) hE hP hK hS (rv_26 hK hP (by decide)) rfl hl.1 rfl (Nat.le_of_ble_eq_true rfl) dL_law_1309 ⟨by show _ ≤ 603072; omega, by show _ ≤ 7223402; omega⟩ (fun H locs hP hS => ?_)
  refine lv_istore (lv' := [(7, .int v6), (6, .int v2), (5, .int ix), (4, .ref (Z.2.2 57 0)), (3, .ref (Z.2.2 56 0)), (2, .ref (Z.2.2 26 0)), (1, .ref (Z.2.2 0 0)), (0, .ref b)]) hx hb dL_law_1312 hl (by decide) rfl (fun ls hl => ?_)
  refine lv_goto (tgt := 1621) hx hb dL_law_1314 (by decide) ?_
  refine lv_iinc (v := (ix + (4 : Int32))) (lv' := [(5, .int (ix + (4 : Int32))), (7, .int v6), (6, .int v2), (4, .ref (Z.2.2 57 0)), (3, .ref (Z.2.2 56 0)), (2, .ref (Z.2.2 26 0)), (1, .ref (Z.2.2 0 0)), (0, .ref b)]) hx hb dL_law_1621 hl (k := 2) rfl rfl (by decide) rfl (fun ls hl => ?_)
  refine lv_goto (tgt := 28) hx hb dL_law_1624 (by decide) ?_
  refine W.widen (k := cells + 3) (n := slots + 18) (by omega) (by omega) ?_
  exact hrc _ _ _ _ _ _ _ hk hP hS (lv_sub hl [0, 3, 4, 5, 6, 7] rfl)
set_option maxHeartbeats 4000000 in
set_option maxRecDepth 100000 in
theorem law_C34 (hfl : l.stackTraces = false) (hZ : wD Z) (hx : p.tables.exec = Jvm.exec) (hb : c.code = code) (hml : c.maxLocals = 9) (hown : s.vm.findClass RL = some m.cls) (hts : ∀ w ∈ lw_all, w.before #[Value.ref b] s = true) (hE : EV (wA Z s.heap.size) s) (hK : wK Z s) (hX : va_X b L xs s s.heap) (hbl : b < s.heap.size) (hbA : ¬ wA Z s.heap.size b) {rc : Int32 → SS → SS → SS → Option Unit} {cells slots : Nat} (hcc : cells + 3 ≤ 603072) (hss : slots + 18 ≤ 7223402) (hrc : ∀ (ix : Int32) (X M O : SS) (H : Heap) (locs : List Loc) (ls : Array Slot), rc ix X M O = some () → wP Z (X, M, O) H → va_S (wA Z s.heap.size) s.heap H locs → lv_has ls 9 [(5, .int ix), (4, .ref (Z.2.2 57 0)), (3, .ref (Z.2.2 56 0)), (2, .ref (Z.2.2 26 0)), (1, .ref (Z.2.2 0 0)), (0, .ref b)] → W p l e room_1 s m #[Value.ref b] below meth c H locs (cells + 3) (slots + 18) Q (F0 m 28 ls [])) (ix : Int32) (X M O : SS) (H : Heap) (locs : List Loc) (ls : Array Slot) (hk : f_law_C34 xs L ix X M O rc = some ()) (hP : wP Z (X, M, O) H) (hS : va_S (wA Z s.heap.size) s.heap H locs) (hl : lv_has ls 9 [(5, .int ix), (4, .ref (Z.2.2 57 0)), (3, .ref (Z.2.2 56 0)), (2, .ref (Z.2.2 26 0)), (1, .ref (Z.2.2 0 0)), (0, .ref b)]) : W p l e room_1 s m #[Value.ref b] below meth c H locs cells slots Q (F0 m 1317 ls []) := by
  unfold f_law_C34 at hk
  refine lv_aload_n hx hb dL_law_1317 rfl (lv_at hl 4 rfl) ?_
  refine lv_aload_n hx hb dL_law_1318 rfl (lv_at hl 5 rfl) ?_
  refine lv_iload hx hb dL_law_1319 (lv_at hl 0 rfl) ?_
  refine lv_iconst (v := (1 : Int32)) hx hb dL_law_1321 (by decide) ?_
  refine lv_iadd hx hb dL_law_1322 ?_
  obtain ⟨hg1, hk⟩ := gd_s hk
  refine va_sld hx hb hX hbl hbA hS hg1 dL_law_1323 ?_
  refine lv_aload_n hx hb dL_law_1324 rfl (lv_at hl 2 rfl) ?_
  obtain ⟨X3, O4, v2, hf5, hk⟩ := b2_s hk
  refine wc_iSX0 (rest := []) (As := [.ref (Z.2.2 0 0), .int (xs ((ix + (1 : Int32))).toNatClampNeg), .ref (Z.2.2 56 0)]) ⟨hx, hb, hml, hown, hts⟩ (fun sz => k_L_ranked l hfl Z hZ X M O (xs ((ix + (1 : Int32))).toNatClampNeg) X3 O4 v2 hf5 sz) (cw_RL_276 (args := _) (s := s) hts (Nat.le_of_ble_eq_true rfl) (Nat.le_of_ble_eq_true rfl)) hE hP hK hS  rfl hl.1 rfl (Nat.le_of_ble_eq_true rfl) dL_law_1325 ⟨by show _ ≤ 603072; omega, by show _ ≤ 7223402; omega⟩ (fun H locs hP hS => ?_)
  refine lv_istore (lv' := [(6, .int v2), (5, .int ix), (4, .ref (Z.2.2 57 0)), (3, .ref (Z.2.2 56 0)), (2, .ref (Z.2.2 26 0)), (1, .ref (Z.2.2 0 0)), (0, .ref b)]) hx hb dL_law_1328 hl (by decide) rfl (fun ls hl => ?_)
  refine lv_aload_n hx hb dL_law_1330 rfl (lv_at hl 4 rfl) ?_
  refine lv_aload_n hx hb dL_law_1331 rfl (lv_at hl 6 rfl) ?_
  refine lv_iload hx hb dL_law_1332 (lv_at hl 1 rfl) ?_
  refine lv_iconst (v := (1 : Int32)) hx hb dL_law_1334 (by decide) ?_
  refine lv_iadd hx hb dL_law_1335 ?_
  obtain ⟨hg6, hk⟩ := gd_s hk
  refine va_sld hx hb hX hbl hbA hS hg6 dL_law_1336 ?_
  obtain ⟨M8, v7, hf9, hk⟩ := b1_s hk
  refine wc_iV0 (rest := []) (As := [.int (xs ((ix + (1 : Int32))).toNatClampNeg)]) ⟨hx, hb, hml, hown, hts⟩ (fun sz => k_X7_ranked l hfl Z hZ X3 M O4 (xs ((ix + (1 : Int32))).toNatClampNeg) M8 v7 hf9 sz) (cw_RL_278 (args := _) (s := s) hts (Nat.le_of_ble_eq_true rfl) (Nat.le_of_ble_eq_true rfl)) hE hP hK hS (rv_26 hK hP (by decide)) rfl hl.1 rfl (Nat.le_of_ble_eq_true rfl) dL_law_1337 ⟨by show _ ≤ 603072; omega, by show _ ≤ 7223402; omega⟩ (fun H locs hP hS => ?_)
  refine lv_istore (lv' := [(7, .int v7), (6, .int v2), (5, .int ix), (4, .ref (Z.2.2 57 0)), (3, .ref (Z.2.2 56 0)), (2, .ref (Z.2.2 26 0)), (1, .ref (Z.2.2 0 0)), (0, .ref b)]) hx hb dL_law_1340 hl (by decide) rfl (fun ls hl => ?_)
  refine lv_goto (tgt := 1621) hx hb dL_law_1342 (by decide) ?_
  refine lv_iinc (v := (ix + (4 : Int32))) (lv' := [(5, .int (ix + (4 : Int32))), (7, .int v7), (6, .int v2), (4, .ref (Z.2.2 57 0)), (3, .ref (Z.2.2 56 0)), (2, .ref (Z.2.2 26 0)), (1, .ref (Z.2.2 0 0)), (0, .ref b)]) hx hb dL_law_1621 hl (k := 2) rfl rfl (by decide) rfl (fun ls hl => ?_)
  refine lv_goto (tgt := 28) hx hb dL_law_1624 (by decide) ?_
  refine W.widen (k := cells + 3) (n := slots + 18) (by omega) (by omega) ?_
  exact hrc _ _ _ _ _ _ _ hk hP hS (lv_sub hl [0, 3, 4, 5, 6, 7] rfl)
set_option maxHeartbeats 4000000 in
set_option maxRecDepth 100000 in
theorem law_C35 (hfl : l.stackTraces = false) (hZ : wD Z) (hx : p.tables.exec = Jvm.exec) (hb : c.code = code) (hml : c.maxLocals = 9) (hown : s.vm.findClass RL = some m.cls) (hts : ∀ w ∈ lw_all, w.before #[Value.ref b] s = true) (hE : EV (wA Z s.heap.size) s) (hK : wK Z s) (hX : va_X b L xs s s.heap) (hbl : b < s.heap.size) (hbA : ¬ wA Z s.heap.size b) {rc : Int32 → SS → SS → SS → Option Unit} {cells slots : Nat} (hcc : cells + 3 ≤ 603072) (hss : slots + 18 ≤ 7223402) (hrc : ∀ (ix : Int32) (X M O : SS) (H : Heap) (locs : List Loc) (ls : Array Slot), rc ix X M O = some () → wP Z (X, M, O) H → va_S (wA Z s.heap.size) s.heap H locs → lv_has ls 9 [(5, .int ix), (4, .ref (Z.2.2 57 0)), (3, .ref (Z.2.2 56 0)), (2, .ref (Z.2.2 26 0)), (1, .ref (Z.2.2 0 0)), (0, .ref b)] → W p l e room_1 s m #[Value.ref b] below meth c H locs (cells + 3) (slots + 18) Q (F0 m 28 ls [])) (ix : Int32) (X M O : SS) (H : Heap) (locs : List Loc) (ls : Array Slot) (hk : f_law_C35 xs L ix X M O rc = some ()) (hP : wP Z (X, M, O) H) (hS : va_S (wA Z s.heap.size) s.heap H locs) (hl : lv_has ls 9 [(5, .int ix), (4, .ref (Z.2.2 57 0)), (3, .ref (Z.2.2 56 0)), (2, .ref (Z.2.2 26 0)), (1, .ref (Z.2.2 0 0)), (0, .ref b)]) : W p l e room_1 s m #[Value.ref b] below meth c H locs cells slots Q (F0 m 1345 ls []) := by
  unfold f_law_C35 at hk
  refine lv_aload_n hx hb dL_law_1345 rfl (lv_at hl 4 rfl) ?_
  refine lv_aload_n hx hb dL_law_1346 rfl (lv_at hl 5 rfl) ?_
  refine lv_iload hx hb dL_law_1347 (lv_at hl 0 rfl) ?_
  refine lv_iconst (v := (1 : Int32)) hx hb dL_law_1349 (by decide) ?_
  refine lv_iadd hx hb dL_law_1350 ?_
  obtain ⟨hg1, hk⟩ := gd_s hk
  refine va_sld hx hb hX hbl hbA hS hg1 dL_law_1351 ?_
  refine lv_aload_n hx hb dL_law_1352 rfl (lv_at hl 5 rfl) ?_
  refine lv_iload hx hb dL_law_1353 (lv_at hl 0 rfl) ?_
  refine lv_iconst (v := (2 : Int32)) hx hb dL_law_1355 (by decide) ?_
  refine lv_iadd hx hb dL_law_1356 ?_
  obtain ⟨hg2, hk⟩ := gd_s hk
  refine va_sld hx hb hX hbl hbA hS hg2 dL_law_1357 ?_
  refine lv_aload_n hx hb dL_law_1358 rfl (lv_at hl 2 rfl) ?_
  obtain ⟨X4, O5, v3, hf6, hk⟩ := b2_s hk
  refine wc_iSX0 (rest := []) (As := [.ref (Z.2.2 0 0), .int (xs ((ix + (1 : Int32))).toNatClampNeg), .int (xs ((ix + (2 : Int32))).toNatClampNeg), .ref (Z.2.2 56 0)]) ⟨hx, hb, hml, hown, hts⟩ (fun sz => k_L_challenge l hfl Z hZ X M O (xs ((ix + (1 : Int32))).toNatClampNeg) (xs ((ix + (2 : Int32))).toNatClampNeg) X4 O5 v3 hf6 sz) (cw_RL_279 (args := _) (s := s) hts (Nat.le_of_ble_eq_true rfl) (Nat.le_of_ble_eq_true rfl)) hE hP hK hS  rfl hl.1 rfl (Nat.le_of_ble_eq_true rfl) dL_law_1359 ⟨by show _ ≤ 603072; omega, by show _ ≤ 7223402; omega⟩ (fun H locs hP hS => ?_)
  refine lv_istore (lv' := [(6, .int v3), (5, .int ix), (4, .ref (Z.2.2 57 0)), (3, .ref (Z.2.2 56 0)), (2, .ref (Z.2.2 26 0)), (1, .ref (Z.2.2 0 0)), (0, .ref b)]) hx hb dL_law_1362 hl (by decide) rfl (fun ls hl => ?_)
  refine lv_aload_n hx hb dL_law_1364 rfl (lv_at hl 4 rfl) ?_
  refine lv_aload_n hx hb dL_law_1365 rfl (lv_at hl 6 rfl) ?_
  refine lv_iload hx hb dL_law_1366 (lv_at hl 1 rfl) ?_
  refine lv_iconst (v := (1 : Int32)) hx hb dL_law_1368 (by decide) ?_
  refine lv_iadd hx hb dL_law_1369 ?_
  obtain ⟨hg7, hk⟩ := gd_s hk
  refine va_sld hx hb hX hbl hbA hS hg7 dL_law_1370 ?_
  refine lv_aload_n hx hb dL_law_1371 rfl (lv_at hl 6 rfl) ?_
  refine lv_iload hx hb dL_law_1372 (lv_at hl 1 rfl) ?_
  refine lv_iconst (v := (2 : Int32)) hx hb dL_law_1374 (by decide) ?_
  refine lv_iadd hx hb dL_law_1375 ?_
  obtain ⟨hg8, hk⟩ := gd_s hk
  refine va_sld hx hb hX hbl hbA hS hg8 dL_law_1376 ?_
  obtain ⟨M10, v9, hf11, hk⟩ := b1_s hk
  refine wc_iV0 (rest := []) (As := [.int (xs ((ix + (1 : Int32))).toNatClampNeg), .int (xs ((ix + (2 : Int32))).toNatClampNeg)]) ⟨hx, hb, hml, hown, hts⟩ (fun sz => k_X7_challenge l hfl Z hZ X4 M O5 (xs ((ix + (1 : Int32))).toNatClampNeg) (xs ((ix + (2 : Int32))).toNatClampNeg) M10 v9 hf11 sz) (cw_RL_281 (args := _) (s := s) hts (Nat.le_of_ble_eq_true rfl) (Nat.le_of_ble_eq_true rfl)) hE hP hK hS (rv_26 hK hP (by decide)) rfl hl.1 rfl (Nat.le_of_ble_eq_true rfl) dL_law_1377 ⟨by show _ ≤ 603072; omega, by show _ ≤ 7223402; omega⟩ (fun H locs hP hS => ?_)
  refine lv_istore (lv' := [(7, .int v9), (6, .int v3), (5, .int ix), (4, .ref (Z.2.2 57 0)), (3, .ref (Z.2.2 56 0)), (2, .ref (Z.2.2 26 0)), (1, .ref (Z.2.2 0 0)), (0, .ref b)]) hx hb dL_law_1380 hl (by decide) rfl (fun ls hl => ?_)
  refine lv_goto (tgt := 1621) hx hb dL_law_1382 (by decide) ?_
  refine lv_iinc (v := (ix + (4 : Int32))) (lv' := [(5, .int (ix + (4 : Int32))), (7, .int v9), (6, .int v3), (4, .ref (Z.2.2 57 0)), (3, .ref (Z.2.2 56 0)), (2, .ref (Z.2.2 26 0)), (1, .ref (Z.2.2 0 0)), (0, .ref b)]) hx hb dL_law_1621 hl (k := 2) rfl rfl (by decide) rfl (fun ls hl => ?_)
  refine lv_goto (tgt := 28) hx hb dL_law_1624 (by decide) ?_
  refine W.widen (k := cells + 3) (n := slots + 18) (by omega) (by omega) ?_
  exact hrc _ _ _ _ _ _ _ hk hP hS (lv_sub hl [0, 3, 4, 5, 6, 7] rfl)
set_option maxHeartbeats 4000000 in
set_option maxRecDepth 100000 in
theorem law_C36 (hfl : l.stackTraces = false) (hZ : wD Z) (hx : p.tables.exec = Jvm.exec) (hb : c.code = code) (hml : c.maxLocals = 9) (hown : s.vm.findClass RL = some m.cls) (hts : ∀ w ∈ lw_all, w.before #[Value.ref b] s = true) (hE : EV (wA Z s.heap.size) s) (hK : wK Z s) (hX : va_X b L xs s s.heap) (hbl : b < s.heap.size) (hbA : ¬ wA Z s.heap.size b) {rc : Int32 → SS → SS → SS → Option Unit} {cells slots : Nat} (hcc : cells + 3 ≤ 603072) (hss : slots + 18 ≤ 7223402) (hrc : ∀ (ix : Int32) (X M O : SS) (H : Heap) (locs : List Loc) (ls : Array Slot), rc ix X M O = some () → wP Z (X, M, O) H → va_S (wA Z s.heap.size) s.heap H locs → lv_has ls 9 [(5, .int ix), (4, .ref (Z.2.2 57 0)), (3, .ref (Z.2.2 56 0)), (2, .ref (Z.2.2 26 0)), (1, .ref (Z.2.2 0 0)), (0, .ref b)] → W p l e room_1 s m #[Value.ref b] below meth c H locs (cells + 3) (slots + 18) Q (F0 m 28 ls [])) (ix : Int32) (X M O : SS) (H : Heap) (locs : List Loc) (ls : Array Slot) (hk : f_law_C36 xs L ix X M O rc = some ()) (hP : wP Z (X, M, O) H) (hS : va_S (wA Z s.heap.size) s.heap H locs) (hl : lv_has ls 9 [(5, .int ix), (4, .ref (Z.2.2 57 0)), (3, .ref (Z.2.2 56 0)), (2, .ref (Z.2.2 26 0)), (1, .ref (Z.2.2 0 0)), (0, .ref b)]) : W p l e room_1 s m #[Value.ref b] below meth c H locs cells slots Q (F0 m 1385 ls []) := by
  unfold f_law_C36 at hk
  refine lv_aload_n hx hb dL_law_1385 rfl (lv_at hl 4 rfl) ?_
  refine lv_aload_n hx hb dL_law_1386 rfl (lv_at hl 5 rfl) ?_
  refine lv_iload hx hb dL_law_1387 (lv_at hl 0 rfl) ?_
  refine lv_iconst (v := (1 : Int32)) hx hb dL_law_1389 (by decide) ?_
  refine lv_iadd hx hb dL_law_1390 ?_
  obtain ⟨hg1, hk⟩ := gd_s hk
  refine va_sld hx hb hX hbl hbA hS hg1 dL_law_1391 ?_
  refine lv_aload_n hx hb dL_law_1392 rfl (lv_at hl 5 rfl) ?_
  refine lv_iload hx hb dL_law_1393 (lv_at hl 0 rfl) ?_
  refine lv_iconst (v := (2 : Int32)) hx hb dL_law_1395 (by decide) ?_
  refine lv_iadd hx hb dL_law_1396 ?_
  obtain ⟨hg2, hk⟩ := gd_s hk
  refine va_sld hx hb hX hbl hbA hS hg2 dL_law_1397 ?_
  refine lv_aload_n hx hb dL_law_1398 rfl (lv_at hl 2 rfl) ?_
  obtain ⟨X4, O5, v3, hf6, hk⟩ := b2_s hk
  refine wc_iSX0 (rest := []) (As := [.ref (Z.2.2 0 0), .int (xs ((ix + (1 : Int32))).toNatClampNeg), .int (xs ((ix + (2 : Int32))).toNatClampNeg), .ref (Z.2.2 56 0)]) ⟨hx, hb, hml, hown, hts⟩ (fun sz => k_L_give l hfl Z hZ X M O (xs ((ix + (1 : Int32))).toNatClampNeg) (xs ((ix + (2 : Int32))).toNatClampNeg) X4 O5 v3 hf6 sz) (cw_RL_282 (args := _) (s := s) hts (Nat.le_of_ble_eq_true rfl) (Nat.le_of_ble_eq_true rfl)) hE hP hK hS  rfl hl.1 rfl (Nat.le_of_ble_eq_true rfl) dL_law_1399 ⟨by show _ ≤ 603072; omega, by show _ ≤ 7223402; omega⟩ (fun H locs hP hS => ?_)
  refine lv_istore (lv' := [(6, .int v3), (5, .int ix), (4, .ref (Z.2.2 57 0)), (3, .ref (Z.2.2 56 0)), (2, .ref (Z.2.2 26 0)), (1, .ref (Z.2.2 0 0)), (0, .ref b)]) hx hb dL_law_1402 hl (by decide) rfl (fun ls hl => ?_)
  refine lv_aload_n hx hb dL_law_1404 rfl (lv_at hl 4 rfl) ?_
  refine lv_aload_n hx hb dL_law_1405 rfl (lv_at hl 6 rfl) ?_
  refine lv_iload hx hb dL_law_1406 (lv_at hl 1 rfl) ?_
  refine lv_iconst (v := (1 : Int32)) hx hb dL_law_1408 (by decide) ?_
  refine lv_iadd hx hb dL_law_1409 ?_
  obtain ⟨hg7, hk⟩ := gd_s hk
  refine va_sld hx hb hX hbl hbA hS hg7 dL_law_1410 ?_
  refine lv_aload_n hx hb dL_law_1411 rfl (lv_at hl 6 rfl) ?_
  refine lv_iload hx hb dL_law_1412 (lv_at hl 1 rfl) ?_
  refine lv_iconst (v := (2 : Int32)) hx hb dL_law_1414 (by decide) ?_
  refine lv_iadd hx hb dL_law_1415 ?_
  obtain ⟨hg8, hk⟩ := gd_s hk
  refine va_sld hx hb hX hbl hbA hS hg8 dL_law_1416 ?_
  obtain ⟨M10, v9, hf11, hk⟩ := b1_s hk
  refine wc_iV0 (rest := []) (As := [.int (xs ((ix + (1 : Int32))).toNatClampNeg), .int (xs ((ix + (2 : Int32))).toNatClampNeg)]) ⟨hx, hb, hml, hown, hts⟩ (fun sz => k_X7_give l hfl Z hZ X4 M O5 (xs ((ix + (1 : Int32))).toNatClampNeg) (xs ((ix + (2 : Int32))).toNatClampNeg) M10 v9 hf11 sz) (cw_RL_284 (args := _) (s := s) hts (Nat.le_of_ble_eq_true rfl) (Nat.le_of_ble_eq_true rfl)) hE hP hK hS (rv_26 hK hP (by decide)) rfl hl.1 rfl (Nat.le_of_ble_eq_true rfl) dL_law_1417 ⟨by show _ ≤ 603072; omega, by show _ ≤ 7223402; omega⟩ (fun H locs hP hS => ?_)
  refine lv_istore (lv' := [(7, .int v9), (6, .int v3), (5, .int ix), (4, .ref (Z.2.2 57 0)), (3, .ref (Z.2.2 56 0)), (2, .ref (Z.2.2 26 0)), (1, .ref (Z.2.2 0 0)), (0, .ref b)]) hx hb dL_law_1420 hl (by decide) rfl (fun ls hl => ?_)
  refine lv_goto (tgt := 1621) hx hb dL_law_1422 (by decide) ?_
  refine lv_iinc (v := (ix + (4 : Int32))) (lv' := [(5, .int (ix + (4 : Int32))), (7, .int v9), (6, .int v3), (4, .ref (Z.2.2 57 0)), (3, .ref (Z.2.2 56 0)), (2, .ref (Z.2.2 26 0)), (1, .ref (Z.2.2 0 0)), (0, .ref b)]) hx hb dL_law_1621 hl (k := 2) rfl rfl (by decide) rfl (fun ls hl => ?_)
  refine lv_goto (tgt := 28) hx hb dL_law_1624 (by decide) ?_
  refine W.widen (k := cells + 3) (n := slots + 18) (by omega) (by omega) ?_
  exact hrc _ _ _ _ _ _ _ hk hP hS (lv_sub hl [0, 3, 4, 5, 6, 7] rfl)
set_option maxHeartbeats 4000000 in
set_option maxRecDepth 100000 in
theorem law_C37 (hfl : l.stackTraces = false) (hZ : wD Z) (hx : p.tables.exec = Jvm.exec) (hb : c.code = code) (hml : c.maxLocals = 9) (hown : s.vm.findClass RL = some m.cls) (hts : ∀ w ∈ lw_all, w.before #[Value.ref b] s = true) (hE : EV (wA Z s.heap.size) s) (hK : wK Z s) (hX : va_X b L xs s s.heap) (hbl : b < s.heap.size) (hbA : ¬ wA Z s.heap.size b) {rc : Int32 → SS → SS → SS → Option Unit} {cells slots : Nat} (hcc : cells + 3 ≤ 603072) (hss : slots + 18 ≤ 7223402) (hrc : ∀ (ix : Int32) (X M O : SS) (H : Heap) (locs : List Loc) (ls : Array Slot), rc ix X M O = some () → wP Z (X, M, O) H → va_S (wA Z s.heap.size) s.heap H locs → lv_has ls 9 [(5, .int ix), (4, .ref (Z.2.2 57 0)), (3, .ref (Z.2.2 56 0)), (2, .ref (Z.2.2 26 0)), (1, .ref (Z.2.2 0 0)), (0, .ref b)] → W p l e room_1 s m #[Value.ref b] below meth c H locs (cells + 3) (slots + 18) Q (F0 m 28 ls [])) (ix : Int32) (X M O : SS) (H : Heap) (locs : List Loc) (ls : Array Slot) (hk : f_law_C37 xs L ix X M O rc = some ()) (hP : wP Z (X, M, O) H) (hS : va_S (wA Z s.heap.size) s.heap H locs) (hl : lv_has ls 9 [(5, .int ix), (4, .ref (Z.2.2 57 0)), (3, .ref (Z.2.2 56 0)), (2, .ref (Z.2.2 26 0)), (1, .ref (Z.2.2 0 0)), (0, .ref b)]) : W p l e room_1 s m #[Value.ref b] below meth c H locs cells slots Q (F0 m 1425 ls []) := by
  unfold f_law_C37 at hk
  refine lv_aload_n hx hb dL_law_1425 rfl (lv_at hl 4 rfl) ?_
  refine lv_aload_n hx hb dL_law_1426 rfl (lv_at hl 5 rfl) ?_
  refine lv_iload hx hb dL_law_1427 (lv_at hl 0 rfl) ?_
  refine lv_iconst (v := (1 : Int32)) hx hb dL_law_1429 (by decide) ?_
  refine lv_iadd hx hb dL_law_1430 ?_
  obtain ⟨hg1, hk⟩ := gd_s hk
  refine va_sld hx hb hX hbl hbA hS hg1 dL_law_1431 ?_
  refine lv_aload_n hx hb dL_law_1432 rfl (lv_at hl 5 rfl) ?_
  refine lv_iload hx hb dL_law_1433 (lv_at hl 0 rfl) ?_
  refine lv_iconst (v := (2 : Int32)) hx hb dL_law_1435 (by decide) ?_
  refine lv_iadd hx hb dL_law_1436 ?_
  obtain ⟨hg2, hk⟩ := gd_s hk
  refine va_sld hx hb hX hbl hbA hS hg2 dL_law_1437 ?_
  refine lv_aload_n hx hb dL_law_1438 rfl (lv_at hl 2 rfl) ?_
  obtain ⟨X4, O5, v3, hf6, hk⟩ := b2_s hk
  refine wc_iSX0 (rest := []) (As := [.ref (Z.2.2 0 0), .int (xs ((ix + (1 : Int32))).toNatClampNeg), .int (xs ((ix + (2 : Int32))).toNatClampNeg), .ref (Z.2.2 56 0)]) ⟨hx, hb, hml, hown, hts⟩ (fun sz => k_L_answer l hfl Z hZ X M O (xs ((ix + (1 : Int32))).toNatClampNeg) (xs ((ix + (2 : Int32))).toNatClampNeg) X4 O5 v3 hf6 sz) (cw_RL_285 (args := _) (s := s) hts (Nat.le_of_ble_eq_true rfl) (Nat.le_of_ble_eq_true rfl)) hE hP hK hS  rfl hl.1 rfl (Nat.le_of_ble_eq_true rfl) dL_law_1439 ⟨by show _ ≤ 603072; omega, by show _ ≤ 7223402; omega⟩ (fun H locs hP hS => ?_)
  refine lv_istore (lv' := [(6, .int v3), (5, .int ix), (4, .ref (Z.2.2 57 0)), (3, .ref (Z.2.2 56 0)), (2, .ref (Z.2.2 26 0)), (1, .ref (Z.2.2 0 0)), (0, .ref b)]) hx hb dL_law_1442 hl (by decide) rfl (fun ls hl => ?_)
  refine lv_aload_n hx hb dL_law_1444 rfl (lv_at hl 4 rfl) ?_
  refine lv_aload_n hx hb dL_law_1445 rfl (lv_at hl 6 rfl) ?_
  refine lv_iload hx hb dL_law_1446 (lv_at hl 1 rfl) ?_
  refine lv_iconst (v := (1 : Int32)) hx hb dL_law_1448 (by decide) ?_
  refine lv_iadd hx hb dL_law_1449 ?_
  obtain ⟨hg7, hk⟩ := gd_s hk
  refine va_sld hx hb hX hbl hbA hS hg7 dL_law_1450 ?_
  refine lv_aload_n hx hb dL_law_1451 rfl (lv_at hl 6 rfl) ?_
  refine lv_iload hx hb dL_law_1452 (lv_at hl 1 rfl) ?_
  refine lv_iconst (v := (2 : Int32)) hx hb dL_law_1454 (by decide) ?_
  refine lv_iadd hx hb dL_law_1455 ?_
  obtain ⟨hg8, hk⟩ := gd_s hk
  refine va_sld hx hb hX hbl hbA hS hg8 dL_law_1456 ?_
  obtain ⟨M10, v9, hf11, hk⟩ := b1_s hk
  refine wc_iV0 (rest := []) (As := [.int (xs ((ix + (1 : Int32))).toNatClampNeg), .int (xs ((ix + (2 : Int32))).toNatClampNeg)]) ⟨hx, hb, hml, hown, hts⟩ (fun sz => k_X7_answer l hfl Z hZ X4 M O5 (xs ((ix + (1 : Int32))).toNatClampNeg) (xs ((ix + (2 : Int32))).toNatClampNeg) M10 v9 hf11 sz) (cw_RL_287 (args := _) (s := s) hts (Nat.le_of_ble_eq_true rfl) (Nat.le_of_ble_eq_true rfl)) hE hP hK hS (rv_26 hK hP (by decide)) rfl hl.1 rfl (Nat.le_of_ble_eq_true rfl) dL_law_1457 ⟨by show _ ≤ 603072; omega, by show _ ≤ 7223402; omega⟩ (fun H locs hP hS => ?_)
  refine lv_istore (lv' := [(7, .int v9), (6, .int v3), (5, .int ix), (4, .ref (Z.2.2 57 0)), (3, .ref (Z.2.2 56 0)), (2, .ref (Z.2.2 26 0)), (1, .ref (Z.2.2 0 0)), (0, .ref b)]) hx hb dL_law_1460 hl (by decide) rfl (fun ls hl => ?_)
  refine lv_goto (tgt := 1621) hx hb dL_law_1462 (by decide) ?_
  refine lv_iinc (v := (ix + (4 : Int32))) (lv' := [(5, .int (ix + (4 : Int32))), (7, .int v9), (6, .int v3), (4, .ref (Z.2.2 57 0)), (3, .ref (Z.2.2 56 0)), (2, .ref (Z.2.2 26 0)), (1, .ref (Z.2.2 0 0)), (0, .ref b)]) hx hb dL_law_1621 hl (k := 2) rfl rfl (by decide) rfl (fun ls hl => ?_)
  refine lv_goto (tgt := 28) hx hb dL_law_1624 (by decide) ?_
  refine W.widen (k := cells + 3) (n := slots + 18) (by omega) (by omega) ?_
  exact hrc _ _ _ _ _ _ _ hk hP hS (lv_sub hl [0, 3, 4, 5, 6, 7] rfl)
set_option maxHeartbeats 4000000 in
set_option maxRecDepth 100000 in
theorem law_C38 (hfl : l.stackTraces = false) (hZ : wD Z) (hx : p.tables.exec = Jvm.exec) (hb : c.code = code) (hml : c.maxLocals = 9) (hown : s.vm.findClass RL = some m.cls) (hts : ∀ w ∈ lw_all, w.before #[Value.ref b] s = true) (hE : EV (wA Z s.heap.size) s) (hK : wK Z s) (hX : va_X b L xs s s.heap) (hbl : b < s.heap.size) (hbA : ¬ wA Z s.heap.size b) {rc : Int32 → SS → SS → SS → Option Unit} {cells slots : Nat} (hcc : cells + 3 ≤ 603072) (hss : slots + 18 ≤ 7223402) (hrc : ∀ (ix : Int32) (X M O : SS) (H : Heap) (locs : List Loc) (ls : Array Slot), rc ix X M O = some () → wP Z (X, M, O) H → va_S (wA Z s.heap.size) s.heap H locs → lv_has ls 9 [(5, .int ix), (4, .ref (Z.2.2 57 0)), (3, .ref (Z.2.2 56 0)), (2, .ref (Z.2.2 26 0)), (1, .ref (Z.2.2 0 0)), (0, .ref b)] → W p l e room_1 s m #[Value.ref b] below meth c H locs (cells + 3) (slots + 18) Q (F0 m 28 ls [])) (ix : Int32) (X M O : SS) (H : Heap) (locs : List Loc) (ls : Array Slot) (hk : f_law_C38 xs L ix X M O rc = some ()) (hP : wP Z (X, M, O) H) (hS : va_S (wA Z s.heap.size) s.heap H locs) (hl : lv_has ls 9 [(5, .int ix), (4, .ref (Z.2.2 57 0)), (3, .ref (Z.2.2 56 0)), (2, .ref (Z.2.2 26 0)), (1, .ref (Z.2.2 0 0)), (0, .ref b)]) : W p l e room_1 s m #[Value.ref b] below meth c H locs cells slots Q (F0 m 1465 ls []) := by
  unfold f_law_C38 at hk
  refine lv_aload_n hx hb dL_law_1465 rfl (lv_at hl 4 rfl) ?_
  refine lv_aload_n hx hb dL_law_1466 rfl (lv_at hl 5 rfl) ?_
  refine lv_iload hx hb dL_law_1467 (lv_at hl 0 rfl) ?_
  refine lv_iconst (v := (1 : Int32)) hx hb dL_law_1469 (by decide) ?_
  refine lv_iadd hx hb dL_law_1470 ?_
  obtain ⟨hg1, hk⟩ := gd_s hk
  refine va_sld hx hb hX hbl hbA hS hg1 dL_law_1471 ?_
  refine lv_aload_n hx hb dL_law_1472 rfl (lv_at hl 2 rfl) ?_
  obtain ⟨O3, v2, hf4, hk⟩ := b1_s hk
  refine wc_iSX0 (rest := []) (As := [.ref (Z.2.2 0 0), .int (xs ((ix + (1 : Int32))).toNatClampNeg), .ref (Z.2.2 56 0)]) ⟨hx, hb, hml, hown, hts⟩ (fun sz => k_L_open l hfl Z hZ X M O (xs ((ix + (1 : Int32))).toNatClampNeg) O3 v2 hf4 sz) (cw_RL_288 (args := _) (s := s) hts (Nat.le_of_ble_eq_true rfl) (Nat.le_of_ble_eq_true rfl)) hE hP hK hS  rfl hl.1 rfl (Nat.le_of_ble_eq_true rfl) dL_law_1473 ⟨by show _ ≤ 603072; omega, by show _ ≤ 7223402; omega⟩ (fun H locs hP hS => ?_)
  refine lv_istore (lv' := [(6, .int v2), (5, .int ix), (4, .ref (Z.2.2 57 0)), (3, .ref (Z.2.2 56 0)), (2, .ref (Z.2.2 26 0)), (1, .ref (Z.2.2 0 0)), (0, .ref b)]) hx hb dL_law_1476 hl (by decide) rfl (fun ls hl => ?_)
  refine lv_aload_n hx hb dL_law_1478 rfl (lv_at hl 4 rfl) ?_
  refine lv_aload_n hx hb dL_law_1479 rfl (lv_at hl 6 rfl) ?_
  refine lv_iload hx hb dL_law_1480 (lv_at hl 1 rfl) ?_
  refine lv_iconst (v := (1 : Int32)) hx hb dL_law_1482 (by decide) ?_
  refine lv_iadd hx hb dL_law_1483 ?_
  obtain ⟨hg5, hk⟩ := gd_s hk
  refine va_sld hx hb hX hbl hbA hS hg5 dL_law_1484 ?_
  obtain ⟨M7, v6, hf8, hk⟩ := b1_s hk
  refine wc_iV0 (rest := []) (As := [.int (xs ((ix + (1 : Int32))).toNatClampNeg)]) ⟨hx, hb, hml, hown, hts⟩ (fun sz => k_X7_open l hfl Z hZ X M O3 (xs ((ix + (1 : Int32))).toNatClampNeg) M7 v6 hf8 sz) (cw_RL_290 (args := _) (s := s) hts (Nat.le_of_ble_eq_true rfl) (Nat.le_of_ble_eq_true rfl)) hE hP hK hS (rv_26 hK hP (by decide)) rfl hl.1 rfl (Nat.le_of_ble_eq_true rfl) dL_law_1485 ⟨by show _ ≤ 603072; omega, by show _ ≤ 7223402; omega⟩ (fun H locs hP hS => ?_)
  refine lv_istore (lv' := [(7, .int v6), (6, .int v2), (5, .int ix), (4, .ref (Z.2.2 57 0)), (3, .ref (Z.2.2 56 0)), (2, .ref (Z.2.2 26 0)), (1, .ref (Z.2.2 0 0)), (0, .ref b)]) hx hb dL_law_1488 hl (by decide) rfl (fun ls hl => ?_)
  refine lv_goto (tgt := 1621) hx hb dL_law_1490 (by decide) ?_
  refine lv_iinc (v := (ix + (4 : Int32))) (lv' := [(5, .int (ix + (4 : Int32))), (7, .int v6), (6, .int v2), (4, .ref (Z.2.2 57 0)), (3, .ref (Z.2.2 56 0)), (2, .ref (Z.2.2 26 0)), (1, .ref (Z.2.2 0 0)), (0, .ref b)]) hx hb dL_law_1621 hl (k := 2) rfl rfl (by decide) rfl (fun ls hl => ?_)
  refine lv_goto (tgt := 28) hx hb dL_law_1624 (by decide) ?_
  refine W.widen (k := cells + 3) (n := slots + 18) (by omega) (by omega) ?_
  exact hrc _ _ _ _ _ _ _ hk hP hS (lv_sub hl [0, 3, 4, 5, 6, 7] rfl)
set_option maxHeartbeats 4000000 in
set_option maxRecDepth 100000 in
theorem law_C39 (hfl : l.stackTraces = false) (hZ : wD Z) (hx : p.tables.exec = Jvm.exec) (hb : c.code = code) (hml : c.maxLocals = 9) (hown : s.vm.findClass RL = some m.cls) (hts : ∀ w ∈ lw_all, w.before #[Value.ref b] s = true) (hE : EV (wA Z s.heap.size) s) (hK : wK Z s) (hX : va_X b L xs s s.heap) (hbl : b < s.heap.size) (hbA : ¬ wA Z s.heap.size b) {rc : Int32 → SS → SS → SS → Option Unit} {cells slots : Nat} (hcc : cells + 3 ≤ 603072) (hss : slots + 18 ≤ 7223402) (hrc : ∀ (ix : Int32) (X M O : SS) (H : Heap) (locs : List Loc) (ls : Array Slot), rc ix X M O = some () → wP Z (X, M, O) H → va_S (wA Z s.heap.size) s.heap H locs → lv_has ls 9 [(5, .int ix), (4, .ref (Z.2.2 57 0)), (3, .ref (Z.2.2 56 0)), (2, .ref (Z.2.2 26 0)), (1, .ref (Z.2.2 0 0)), (0, .ref b)] → W p l e room_1 s m #[Value.ref b] below meth c H locs (cells + 3) (slots + 18) Q (F0 m 28 ls [])) (ix : Int32) (X M O : SS) (H : Heap) (locs : List Loc) (ls : Array Slot) (hk : f_law_C39 xs L ix X M O rc = some ()) (hP : wP Z (X, M, O) H) (hS : va_S (wA Z s.heap.size) s.heap H locs) (hl : lv_has ls 9 [(5, .int ix), (4, .ref (Z.2.2 57 0)), (3, .ref (Z.2.2 56 0)), (2, .ref (Z.2.2 26 0)), (1, .ref (Z.2.2 0 0)), (0, .ref b)]) : W p l e room_1 s m #[Value.ref b] below meth c H locs cells slots Q (F0 m 1493 ls []) := by
  unfold f_law_C39 at hk
  refine lv_aload_n hx hb dL_law_1493 rfl (lv_at hl 4 rfl) ?_
  refine lv_aload_n hx hb dL_law_1494 rfl (lv_at hl 5 rfl) ?_
  refine lv_iload hx hb dL_law_1495 (lv_at hl 0 rfl) ?_
  refine lv_iconst (v := (1 : Int32)) hx hb dL_law_1497 (by decide) ?_
  refine lv_iadd hx hb dL_law_1498 ?_
  obtain ⟨hg1, hk⟩ := gd_s hk
  refine va_sld hx hb hX hbl hbA hS hg1 dL_law_1499 ?_
  refine lv_aload_n hx hb dL_law_1500 rfl (lv_at hl 2 rfl) ?_
  obtain ⟨O3, v2, hf4, hk⟩ := b1_s hk
  refine wc_iSX0 (rest := []) (As := [.ref (Z.2.2 0 0), .int (xs ((ix + (1 : Int32))).toNatClampNeg), .ref (Z.2.2 56 0)]) ⟨hx, hb, hml, hown, hts⟩ (fun sz => k_L_left l hfl Z hZ X M O (xs ((ix + (1 : Int32))).toNatClampNeg) O3 v2 hf4 sz) (cw_RL_291 (args := _) (s := s) hts (Nat.le_of_ble_eq_true rfl) (Nat.le_of_ble_eq_true rfl)) hE hP hK hS  rfl hl.1 rfl (Nat.le_of_ble_eq_true rfl) dL_law_1501 ⟨by show _ ≤ 603072; omega, by show _ ≤ 7223402; omega⟩ (fun H locs hP hS => ?_)
  refine lv_istore (lv' := [(6, .int v2), (5, .int ix), (4, .ref (Z.2.2 57 0)), (3, .ref (Z.2.2 56 0)), (2, .ref (Z.2.2 26 0)), (1, .ref (Z.2.2 0 0)), (0, .ref b)]) hx hb dL_law_1504 hl (by decide) rfl (fun ls hl => ?_)
  refine lv_aload_n hx hb dL_law_1506 rfl (lv_at hl 4 rfl) ?_
  refine lv_aload_n hx hb dL_law_1507 rfl (lv_at hl 6 rfl) ?_
  refine lv_iload hx hb dL_law_1508 (lv_at hl 1 rfl) ?_
  refine lv_iconst (v := (1 : Int32)) hx hb dL_law_1510 (by decide) ?_
  refine lv_iadd hx hb dL_law_1511 ?_
  obtain ⟨hg5, hk⟩ := gd_s hk
  refine va_sld hx hb hX hbl hbA hS hg5 dL_law_1512 ?_
  obtain ⟨M7, v6, hf8, hk⟩ := b1_s hk
  refine wc_iV0 (rest := []) (As := [.int (xs ((ix + (1 : Int32))).toNatClampNeg)]) ⟨hx, hb, hml, hown, hts⟩ (fun sz => k_X7_left l hfl Z hZ X M O3 (xs ((ix + (1 : Int32))).toNatClampNeg) M7 v6 hf8 sz) (cw_RL_293 (args := _) (s := s) hts (Nat.le_of_ble_eq_true rfl) (Nat.le_of_ble_eq_true rfl)) hE hP hK hS (rv_26 hK hP (by decide)) rfl hl.1 rfl (Nat.le_of_ble_eq_true rfl) dL_law_1513 ⟨by show _ ≤ 603072; omega, by show _ ≤ 7223402; omega⟩ (fun H locs hP hS => ?_)
  refine lv_istore (lv' := [(7, .int v6), (6, .int v2), (5, .int ix), (4, .ref (Z.2.2 57 0)), (3, .ref (Z.2.2 56 0)), (2, .ref (Z.2.2 26 0)), (1, .ref (Z.2.2 0 0)), (0, .ref b)]) hx hb dL_law_1516 hl (by decide) rfl (fun ls hl => ?_)
  refine lv_goto (tgt := 1621) hx hb dL_law_1518 (by decide) ?_
  refine lv_iinc (v := (ix + (4 : Int32))) (lv' := [(5, .int (ix + (4 : Int32))), (7, .int v6), (6, .int v2), (4, .ref (Z.2.2 57 0)), (3, .ref (Z.2.2 56 0)), (2, .ref (Z.2.2 26 0)), (1, .ref (Z.2.2 0 0)), (0, .ref b)]) hx hb dL_law_1621 hl (k := 2) rfl rfl (by decide) rfl (fun ls hl => ?_)
  refine lv_goto (tgt := 28) hx hb dL_law_1624 (by decide) ?_
  refine W.widen (k := cells + 3) (n := slots + 18) (by omega) (by omega) ?_
  exact hrc _ _ _ _ _ _ _ hk hP hS (lv_sub hl [0, 3, 4, 5, 6, 7] rfl)
set_option maxHeartbeats 4000000 in
set_option maxRecDepth 100000 in
theorem law_C40 (hfl : l.stackTraces = false) (hZ : wD Z) (hx : p.tables.exec = Jvm.exec) (hb : c.code = code) (hml : c.maxLocals = 9) (hown : s.vm.findClass RL = some m.cls) (hts : ∀ w ∈ lw_all, w.before #[Value.ref b] s = true) (hE : EV (wA Z s.heap.size) s) (hK : wK Z s) (hX : va_X b L xs s s.heap) (hbl : b < s.heap.size) (hbA : ¬ wA Z s.heap.size b) {rc : Int32 → SS → SS → SS → Option Unit} {cells slots : Nat} (hcc : cells + 3 ≤ 603072) (hss : slots + 18 ≤ 7223402) (hrc : ∀ (ix : Int32) (X M O : SS) (H : Heap) (locs : List Loc) (ls : Array Slot), rc ix X M O = some () → wP Z (X, M, O) H → va_S (wA Z s.heap.size) s.heap H locs → lv_has ls 9 [(5, .int ix), (4, .ref (Z.2.2 57 0)), (3, .ref (Z.2.2 56 0)), (2, .ref (Z.2.2 26 0)), (1, .ref (Z.2.2 0 0)), (0, .ref b)] → W p l e room_1 s m #[Value.ref b] below meth c H locs (cells + 3) (slots + 18) Q (F0 m 28 ls [])) (ix : Int32) (X M O : SS) (H : Heap) (locs : List Loc) (ls : Array Slot) (hk : f_law_C40 xs L ix X M O rc = some ()) (hP : wP Z (X, M, O) H) (hS : va_S (wA Z s.heap.size) s.heap H locs) (hl : lv_has ls 9 [(5, .int ix), (4, .ref (Z.2.2 57 0)), (3, .ref (Z.2.2 56 0)), (2, .ref (Z.2.2 26 0)), (1, .ref (Z.2.2 0 0)), (0, .ref b)]) : W p l e room_1 s m #[Value.ref b] below meth c H locs cells slots Q (F0 m 1521 ls []) := by
  unfold f_law_C40 at hk
  refine lv_aload_n hx hb dL_law_1521 rfl (lv_at hl 4 rfl) ?_
  refine lv_aload_n hx hb dL_law_1522 rfl (lv_at hl 5 rfl) ?_
  refine lv_iload hx hb dL_law_1523 (lv_at hl 0 rfl) ?_
  refine lv_iconst (v := (1 : Int32)) hx hb dL_law_1525 (by decide) ?_
  refine lv_iadd hx hb dL_law_1526 ?_
  obtain ⟨hg1, hk⟩ := gd_s hk
  refine va_sld hx hb hX hbl hbA hS hg1 dL_law_1527 ?_
  refine lv_aload_n hx hb dL_law_1528 rfl (lv_at hl 2 rfl) ?_
  obtain ⟨X3, O4, v2, hf5, hk⟩ := b2_s hk
  refine wc_iSX0 (rest := []) (As := [.ref (Z.2.2 0 0), .int (xs ((ix + (1 : Int32))).toNatClampNeg), .ref (Z.2.2 56 0)]) ⟨hx, hb, hml, hown, hts⟩ (fun sz => k_L_days l hfl Z hZ X M O (xs ((ix + (1 : Int32))).toNatClampNeg) X3 O4 v2 hf5 sz) (cw_RL_294 (args := _) (s := s) hts (Nat.le_of_ble_eq_true rfl) (Nat.le_of_ble_eq_true rfl)) hE hP hK hS  rfl hl.1 rfl (Nat.le_of_ble_eq_true rfl) dL_law_1529 ⟨by show _ ≤ 603072; omega, by show _ ≤ 7223402; omega⟩ (fun H locs hP hS => ?_)
  refine lv_istore (lv' := [(6, .int v2), (5, .int ix), (4, .ref (Z.2.2 57 0)), (3, .ref (Z.2.2 56 0)), (2, .ref (Z.2.2 26 0)), (1, .ref (Z.2.2 0 0)), (0, .ref b)]) hx hb dL_law_1532 hl (by decide) rfl (fun ls hl => ?_)
  refine lv_aload_n hx hb dL_law_1534 rfl (lv_at hl 4 rfl) ?_
  refine lv_aload_n hx hb dL_law_1535 rfl (lv_at hl 6 rfl) ?_
  refine lv_iload hx hb dL_law_1536 (lv_at hl 1 rfl) ?_
  refine lv_iconst (v := (1 : Int32)) hx hb dL_law_1538 (by decide) ?_
  refine lv_iadd hx hb dL_law_1539 ?_
  obtain ⟨hg6, hk⟩ := gd_s hk
  refine va_sld hx hb hX hbl hbA hS hg6 dL_law_1540 ?_
  obtain ⟨M8, v7, hf9, hk⟩ := b1_s hk
  refine wc_iV0 (rest := []) (As := [.int (xs ((ix + (1 : Int32))).toNatClampNeg)]) ⟨hx, hb, hml, hown, hts⟩ (fun sz => k_X7_days l hfl Z hZ X3 M O4 (xs ((ix + (1 : Int32))).toNatClampNeg) M8 v7 hf9 sz) (cw_RL_296 (args := _) (s := s) hts (Nat.le_of_ble_eq_true rfl) (Nat.le_of_ble_eq_true rfl)) hE hP hK hS (rv_26 hK hP (by decide)) rfl hl.1 rfl (Nat.le_of_ble_eq_true rfl) dL_law_1541 ⟨by show _ ≤ 603072; omega, by show _ ≤ 7223402; omega⟩ (fun H locs hP hS => ?_)
  refine lv_istore (lv' := [(7, .int v7), (6, .int v2), (5, .int ix), (4, .ref (Z.2.2 57 0)), (3, .ref (Z.2.2 56 0)), (2, .ref (Z.2.2 26 0)), (1, .ref (Z.2.2 0 0)), (0, .ref b)]) hx hb dL_law_1544 hl (by decide) rfl (fun ls hl => ?_)
  refine lv_goto (tgt := 1621) hx hb dL_law_1546 (by decide) ?_
  refine lv_iinc (v := (ix + (4 : Int32))) (lv' := [(5, .int (ix + (4 : Int32))), (7, .int v7), (6, .int v2), (4, .ref (Z.2.2 57 0)), (3, .ref (Z.2.2 56 0)), (2, .ref (Z.2.2 26 0)), (1, .ref (Z.2.2 0 0)), (0, .ref b)]) hx hb dL_law_1621 hl (k := 2) rfl rfl (by decide) rfl (fun ls hl => ?_)
  refine lv_goto (tgt := 28) hx hb dL_law_1624 (by decide) ?_
  refine W.widen (k := cells + 3) (n := slots + 18) (by omega) (by omega) ?_
  exact hrc _ _ _ _ _ _ _ hk hP hS (lv_sub hl [0, 3, 4, 5, 6, 7] rfl)
set_option maxHeartbeats 4000000 in
set_option maxRecDepth 100000 in
theorem law_C41 (hfl : l.stackTraces = false) (hZ : wD Z) (hx : p.tables.exec = Jvm.exec) (hb : c.code = code) (hml : c.maxLocals = 9) (hown : s.vm.findClass RL = some m.cls) (hts : ∀ w ∈ lw_all, w.before #[Value.ref b] s = true) (hE : EV (wA Z s.heap.size) s) (hK : wK Z s) (hX : va_X b L xs s s.heap) (hbl : b < s.heap.size) (hbA : ¬ wA Z s.heap.size b) {rc : Int32 → SS → SS → SS → Option Unit} {cells slots : Nat} (hcc : cells + 3 ≤ 603072) (hss : slots + 18 ≤ 7223402) (hrc : ∀ (ix : Int32) (X M O : SS) (H : Heap) (locs : List Loc) (ls : Array Slot), rc ix X M O = some () → wP Z (X, M, O) H → va_S (wA Z s.heap.size) s.heap H locs → lv_has ls 9 [(5, .int ix), (4, .ref (Z.2.2 57 0)), (3, .ref (Z.2.2 56 0)), (2, .ref (Z.2.2 26 0)), (1, .ref (Z.2.2 0 0)), (0, .ref b)] → W p l e room_1 s m #[Value.ref b] below meth c H locs (cells + 3) (slots + 18) Q (F0 m 28 ls [])) (ix : Int32) (X M O : SS) (H : Heap) (locs : List Loc) (ls : Array Slot) (hk : f_law_C41 xs L ix X M O rc = some ()) (hP : wP Z (X, M, O) H) (hS : va_S (wA Z s.heap.size) s.heap H locs) (hl : lv_has ls 9 [(5, .int ix), (4, .ref (Z.2.2 57 0)), (3, .ref (Z.2.2 56 0)), (2, .ref (Z.2.2 26 0)), (1, .ref (Z.2.2 0 0)), (0, .ref b)]) : W p l e room_1 s m #[Value.ref b] below meth c H locs cells slots Q (F0 m 1549 ls []) := by
  unfold f_law_C41 at hk
  refine lv_aload_n hx hb dL_law_1549 rfl (lv_at hl 4 rfl) ?_
  obtain ⟨v1, hf2, hk⟩ := b0_s hk
  refine wc_lV0 (rest := []) (As := []) ⟨hx, hb, hml, hown, hts⟩ (fun sz => k_X6_checksum l hfl Z hZ X M O v1 hf2 sz) (cw_RL_297 (args := _) (s := s) hts (Nat.le_of_ble_eq_true rfl) (Nat.le_of_ble_eq_true rfl)) hE hP hK hS (rv_0 hK hP (by decide)) rfl hl.1 rfl (Nat.le_of_ble_eq_true rfl) dL_law_1550 ⟨by show _ ≤ 603072; omega, by show _ ≤ 7223402; omega⟩ (fun H locs hP hS => ?_)
  refine lv_pop2_2 hx hb dL_law_1553 rfl ?_
  refine lv_aload_n hx hb dL_law_1554 rfl (lv_at hl 3 rfl) ?_
  obtain ⟨M4, v3, hf5, hk⟩ := b1_s hk
  refine wc_lV0 (rest := []) (As := []) ⟨hx, hb, hml, hown, hts⟩ (fun sz => k_X7_checksum l hfl Z hZ X M O M4 v3 hf5 sz) (cw_RL_301 (args := _) (s := s) hts (Nat.le_of_ble_eq_true rfl) (Nat.le_of_ble_eq_true rfl)) hE hP hK hS (rv_26 hK hP (by decide)) rfl hl.1 rfl (Nat.le_of_ble_eq_true rfl) dL_law_1555 ⟨by show _ ≤ 603072; omega, by show _ ≤ 7223402; omega⟩ (fun H locs hP hS => ?_)
  refine lv_pop2_2 hx hb dL_law_1558 rfl ?_
  refine lv_goto (tgt := 1621) hx hb dL_law_1559 (by decide) ?_
  refine lv_iinc (v := (ix + (4 : Int32))) (lv' := [(5, .int (ix + (4 : Int32))), (4, .ref (Z.2.2 57 0)), (3, .ref (Z.2.2 56 0)), (2, .ref (Z.2.2 26 0)), (1, .ref (Z.2.2 0 0)), (0, .ref b)]) hx hb dL_law_1621 hl (k := 0) rfl rfl (by decide) rfl (fun ls hl => ?_)
  refine lv_goto (tgt := 28) hx hb dL_law_1624 (by decide) ?_
  refine W.widen (k := cells + 3) (n := slots + 18) (by omega) (by omega) ?_
  exact hrc _ _ _ _ _ _ _ hk hP hS (lv_sub hl [0, 1, 2, 3, 4, 5] rfl)
set_option maxHeartbeats 4000000 in
set_option maxRecDepth 100000 in
theorem law_C42 (hfl : l.stackTraces = false) (hZ : wD Z) (hx : p.tables.exec = Jvm.exec) (hb : c.code = code) (hml : c.maxLocals = 9) (hown : s.vm.findClass RL = some m.cls) (hts : ∀ w ∈ lw_all, w.before #[Value.ref b] s = true) (hE : EV (wA Z s.heap.size) s) (hK : wK Z s) (hX : va_X b L xs s s.heap) (hbl : b < s.heap.size) (hbA : ¬ wA Z s.heap.size b) {rc : Int32 → SS → SS → SS → Option Unit} {cells slots : Nat} (hcc : cells + 3 ≤ 603072) (hss : slots + 18 ≤ 7223402) (hrc : ∀ (ix : Int32) (X M O : SS) (H : Heap) (locs : List Loc) (ls : Array Slot), rc ix X M O = some () → wP Z (X, M, O) H → va_S (wA Z s.heap.size) s.heap H locs → lv_has ls 9 [(5, .int ix), (4, .ref (Z.2.2 57 0)), (3, .ref (Z.2.2 56 0)), (2, .ref (Z.2.2 26 0)), (1, .ref (Z.2.2 0 0)), (0, .ref b)] → W p l e room_1 s m #[Value.ref b] below meth c H locs (cells + 3) (slots + 18) Q (F0 m 28 ls [])) (ix : Int32) (X M O : SS) (H : Heap) (locs : List Loc) (ls : Array Slot) (hk : f_law_C42 xs L ix X M O rc = some ()) (hP : wP Z (X, M, O) H) (hS : va_S (wA Z s.heap.size) s.heap H locs) (hl : lv_has ls 9 [(5, .int ix), (4, .ref (Z.2.2 57 0)), (3, .ref (Z.2.2 56 0)), (2, .ref (Z.2.2 26 0)), (1, .ref (Z.2.2 0 0)), (0, .ref b)]) : W p l e room_1 s m #[Value.ref b] below meth c H locs cells slots Q (F0 m 1562 ls []) := by
  unfold f_law_C42 at hk
  refine lv_aload_n hx hb dL_law_1562 rfl (lv_at hl 4 rfl) ?_
  refine lv_aload hx hb dL_law_1563 (lv_at hl 1 rfl) ?_
  obtain ⟨O2, v1, hf3, hk⟩ := b1_s hk
  refine wc_iSX0 (rest := []) (As := [.ref (Z.2.2 0 0), .ref (Z.2.2 57 0)]) ⟨hx, hb, hml, hown, hts⟩ (fun sz => k_L_standingShare l hfl Z hZ X M O O2 v1 hf3 sz) (cw_RL_302 (args := _) (s := s) hts (Nat.le_of_ble_eq_true rfl) (Nat.le_of_ble_eq_true rfl)) hE hP hK hS  rfl hl.1 rfl (Nat.le_of_ble_eq_true rfl) dL_law_1565 ⟨by show _ ≤ 603072; omega, by show _ ≤ 7223402; omega⟩ (fun H locs hP hS => ?_)
  refine lv_istore (lv' := [(6, .int v1), (5, .int ix), (4, .ref (Z.2.2 57 0)), (3, .ref (Z.2.2 56 0)), (2, .ref (Z.2.2 26 0)), (1, .ref (Z.2.2 0 0)), (0, .ref b)]) hx hb dL_law_1568 hl (by decide) rfl (fun ls hl => ?_)
  refine lv_aload_n hx hb dL_law_1570 rfl (lv_at hl 4 rfl) ?_
  obtain ⟨M5, v4, hf6, hk⟩ := b1_s hk
  refine wc_fV0 (rest := []) (As := []) ⟨hx, hb, hml, hown, hts⟩ (fun sz => k_X7_standingShare l hfl Z hZ X M O2 M5 v4 hf6 sz) (cw_RL_305 (args := _) (s := s) hts (Nat.le_of_ble_eq_true rfl) (Nat.le_of_ble_eq_true rfl)) hE hP hK hS (rv_26 hK hP (by decide)) rfl hl.1 rfl (Nat.le_of_ble_eq_true rfl) dL_law_1571 ⟨by show _ ≤ 603072; omega, by show _ ≤ 7223402; omega⟩ (fun H locs hP hS => ?_)
  refine lv_fstore (lv' := [(7, .float v4), (6, .int v1), (5, .int ix), (4, .ref (Z.2.2 57 0)), (3, .ref (Z.2.2 56 0)), (2, .ref (Z.2.2 26 0)), (1, .ref (Z.2.2 0 0)), (0, .ref b)]) hx hb dL_law_1574 hl (by decide) rfl (fun ls hl => ?_)
  refine lv_goto (tgt := 1621) hx hb dL_law_1576 (by decide) ?_
  refine lv_iinc (v := (ix + (4 : Int32))) (lv' := [(5, .int (ix + (4 : Int32))), (7, .float v4), (6, .int v1), (4, .ref (Z.2.2 57 0)), (3, .ref (Z.2.2 56 0)), (2, .ref (Z.2.2 26 0)), (1, .ref (Z.2.2 0 0)), (0, .ref b)]) hx hb dL_law_1621 hl (k := 2) rfl rfl (by decide) rfl (fun ls hl => ?_)
  refine lv_goto (tgt := 28) hx hb dL_law_1624 (by decide) ?_
  refine W.widen (k := cells + 3) (n := slots + 18) (by omega) (by omega) ?_
  exact hrc _ _ _ _ _ _ _ hk hP hS (lv_sub hl [0, 3, 4, 5, 6, 7] rfl)
set_option maxHeartbeats 4000000 in
set_option maxRecDepth 100000 in
theorem law_C43 (hfl : l.stackTraces = false) (hZ : wD Z) (hx : p.tables.exec = Jvm.exec) (hb : c.code = code) (hml : c.maxLocals = 9) (hown : s.vm.findClass RL = some m.cls) (hts : ∀ w ∈ lw_all, w.before #[Value.ref b] s = true) (hE : EV (wA Z s.heap.size) s) (hK : wK Z s) (hX : va_X b L xs s s.heap) (hbl : b < s.heap.size) (hbA : ¬ wA Z s.heap.size b) {rc : Int32 → SS → SS → SS → Option Unit} {cells slots : Nat} (hcc : cells + 3 ≤ 603072) (hss : slots + 18 ≤ 7223402) (hrc : ∀ (ix : Int32) (X M O : SS) (H : Heap) (locs : List Loc) (ls : Array Slot), rc ix X M O = some () → wP Z (X, M, O) H → va_S (wA Z s.heap.size) s.heap H locs → lv_has ls 9 [(5, .int ix), (4, .ref (Z.2.2 57 0)), (3, .ref (Z.2.2 56 0)), (2, .ref (Z.2.2 26 0)), (1, .ref (Z.2.2 0 0)), (0, .ref b)] → W p l e room_1 s m #[Value.ref b] below meth c H locs (cells + 3) (slots + 18) Q (F0 m 28 ls [])) (ix : Int32) (X M O : SS) (H : Heap) (locs : List Loc) (ls : Array Slot) (hk : f_law_C43 xs L ix X M O rc = some ()) (hP : wP Z (X, M, O) H) (hS : va_S (wA Z s.heap.size) s.heap H locs) (hl : lv_has ls 9 [(5, .int ix), (4, .ref (Z.2.2 57 0)), (3, .ref (Z.2.2 56 0)), (2, .ref (Z.2.2 26 0)), (1, .ref (Z.2.2 0 0)), (0, .ref b)]) : W p l e room_1 s m #[Value.ref b] below meth c H locs cells slots Q (F0 m 1579 ls []) := by
  unfold f_law_C43 at hk
  refine lv_aload_n hx hb dL_law_1579 rfl (lv_at hl 4 rfl) ?_
  refine lv_aload_n hx hb dL_law_1580 rfl (lv_at hl 5 rfl) ?_
  refine lv_iload hx hb dL_law_1581 (lv_at hl 0 rfl) ?_
  refine lv_iconst (v := (1 : Int32)) hx hb dL_law_1583 (by decide) ?_
  refine lv_iadd hx hb dL_law_1584 ?_
  obtain ⟨hg1, hk⟩ := gd_s hk
  refine va_sld hx hb hX hbl hbA hS hg1 dL_law_1585 ?_
  refine lv_aload hx hb dL_law_1586 (lv_at hl 1 rfl) ?_
  obtain ⟨X3, O4, v2, hf5, hk⟩ := b2_s hk
  refine wc_iSX0 (rest := []) (As := [.ref (Z.2.2 0 0), .int (xs ((ix + (1 : Int32))).toNatClampNeg), .ref (Z.2.2 57 0)]) ⟨hx, hb, hml, hown, hts⟩ (fun sz => k_L_meanSteps l hfl Z hZ X M O (xs ((ix + (1 : Int32))).toNatClampNeg) X3 O4 v2 hf5 sz) (cw_RL_306 (args := _) (s := s) hts (Nat.le_of_ble_eq_true rfl) (Nat.le_of_ble_eq_true rfl)) hE hP hK hS  rfl hl.1 rfl (Nat.le_of_ble_eq_true rfl) dL_law_1588 ⟨by show _ ≤ 603072; omega, by show _ ≤ 7223402; omega⟩ (fun H locs hP hS => ?_)
  refine lv_istore (lv' := [(6, .int v2), (5, .int ix), (4, .ref (Z.2.2 57 0)), (3, .ref (Z.2.2 56 0)), (2, .ref (Z.2.2 26 0)), (1, .ref (Z.2.2 0 0)), (0, .ref b)]) hx hb dL_law_1591 hl (by decide) rfl (fun ls hl => ?_)
  refine lv_aload_n hx hb dL_law_1593 rfl (lv_at hl 4 rfl) ?_
  refine lv_aload_n hx hb dL_law_1594 rfl (lv_at hl 6 rfl) ?_
  refine lv_iload hx hb dL_law_1595 (lv_at hl 1 rfl) ?_
  refine lv_iconst (v := (1 : Int32)) hx hb dL_law_1597 (by decide) ?_
  refine lv_iadd hx hb dL_law_1598 ?_
  obtain ⟨hg6, hk⟩ := gd_s hk
  refine va_sld hx hb hX hbl hbA hS hg6 dL_law_1599 ?_
  obtain ⟨M8, v7, hf9, hk⟩ := b1_s hk
  refine wc_dV0 (rest := []) (As := [.int (xs ((ix + (1 : Int32))).toNatClampNeg)]) ⟨hx, hb, hml, hown, hts⟩ (fun sz => k_X7_meanSteps l hfl Z hZ X3 M O4 (xs ((ix + (1 : Int32))).toNatClampNeg) M8 v7 hf9 sz) (cw_RL_308 (args := _) (s := s) hts (Nat.le_of_ble_eq_true rfl) (Nat.le_of_ble_eq_true rfl)) hE hP hK hS (rv_26 hK hP (by decide)) rfl hl.1 rfl (Nat.le_of_ble_eq_true rfl) dL_law_1600 ⟨by show _ ≤ 603072; omega, by show _ ≤ 7223402; omega⟩ (fun H locs hP hS => ?_)
  refine lv_dstore (lv' := [(7, .double v7), (6, .int v2), (5, .int ix), (4, .ref (Z.2.2 57 0)), (3, .ref (Z.2.2 56 0)), (2, .ref (Z.2.2 26 0)), (1, .ref (Z.2.2 0 0)), (0, .ref b)]) hx hb dL_law_1603 hl (by decide) rfl (fun ls hl => ?_)
  refine lv_goto (tgt := 1621) hx hb dL_law_1605 (by decide) ?_
  refine lv_iinc (v := (ix + (4 : Int32))) (lv' := [(5, .int (ix + (4 : Int32))), (7, .double v7), (6, .int v2), (4, .ref (Z.2.2 57 0)), (3, .ref (Z.2.2 56 0)), (2, .ref (Z.2.2 26 0)), (1, .ref (Z.2.2 0 0)), (0, .ref b)]) hx hb dL_law_1621 hl (k := 2) rfl rfl (by decide) rfl (fun ls hl => ?_)
  refine lv_goto (tgt := 28) hx hb dL_law_1624 (by decide) ?_
  refine W.widen (k := cells + 3) (n := slots + 18) (by omega) (by omega) ?_
  exact hrc _ _ _ _ _ _ _ hk hP hS (lv_sub hl [0, 3, 4, 5, 6, 7] rfl)
set_option maxHeartbeats 4000000 in
set_option maxRecDepth 100000 in
theorem law_C44 (hfl : l.stackTraces = false) (hZ : wD Z) (hx : p.tables.exec = Jvm.exec) (hb : c.code = code) (hml : c.maxLocals = 9) (hown : s.vm.findClass RL = some m.cls) (hts : ∀ w ∈ lw_all, w.before #[Value.ref b] s = true) (hE : EV (wA Z s.heap.size) s) (hK : wK Z s) (hX : va_X b L xs s s.heap) (hbl : b < s.heap.size) (hbA : ¬ wA Z s.heap.size b) {rc : Int32 → SS → SS → SS → Option Unit} {cells slots : Nat} (hcc : cells + 3 ≤ 603072) (hss : slots + 18 ≤ 7223402) (hrc : ∀ (ix : Int32) (X M O : SS) (H : Heap) (locs : List Loc) (ls : Array Slot), rc ix X M O = some () → wP Z (X, M, O) H → va_S (wA Z s.heap.size) s.heap H locs → lv_has ls 9 [(5, .int ix), (4, .ref (Z.2.2 57 0)), (3, .ref (Z.2.2 56 0)), (2, .ref (Z.2.2 26 0)), (1, .ref (Z.2.2 0 0)), (0, .ref b)] → W p l e room_1 s m #[Value.ref b] below meth c H locs (cells + 3) (slots + 18) Q (F0 m 28 ls [])) (ix : Int32) (X M O : SS) (H : Heap) (locs : List Loc) (ls : Array Slot) (hk : f_law_C44 xs L ix X M O rc = some ()) (hP : wP Z (X, M, O) H) (hS : va_S (wA Z s.heap.size) s.heap H locs) (hl : lv_has ls 9 [(5, .int ix), (4, .ref (Z.2.2 57 0)), (3, .ref (Z.2.2 56 0)), (2, .ref (Z.2.2 26 0)), (1, .ref (Z.2.2 0 0)), (0, .ref b)]) : W p l e room_1 s m #[Value.ref b] below meth c H locs cells slots Q (F0 m 1608 ls []) := by
  unfold f_law_C44 at hk
  refine lv_aload_n hx hb dL_law_1608 rfl (lv_at hl 4 rfl) ?_
  obtain ⟨X2, v1, hf3, hk⟩ := b1_s hk
  refine wc_iV0 (rest := []) (As := []) ⟨hx, hb, hml, hown, hts⟩ (fun sz => k_X6_isSound l hfl Z hZ X M O X2 v1 hf3 sz) (cw_RL_309 (args := _) (s := s) hts (Nat.le_of_ble_eq_true rfl) (Nat.le_of_ble_eq_true rfl)) hE hP hK hS (rv_0 hK hP (by decide)) rfl hl.1 rfl (Nat.le_of_ble_eq_true rfl) dL_law_1609 ⟨by show _ ≤ 603072; omega, by show _ ≤ 7223402; omega⟩ (fun H locs hP hS => ?_)
  refine lv_pop hx hb dL_law_1612 rfl ?_
  refine lv_aload_n hx hb dL_law_1613 rfl (lv_at hl 3 rfl) ?_
  obtain ⟨M5, v4, hf6, hk⟩ := b1_s hk
  refine wc_iV0 (rest := []) (As := []) ⟨hx, hb, hml, hown, hts⟩ (fun sz => k_X7_isSound l hfl Z hZ X2 M O M5 v4 hf6 sz) (cw_RL_313 (args := _) (s := s) hts (Nat.le_of_ble_eq_true rfl) (Nat.le_of_ble_eq_true rfl)) hE hP hK hS (rv_26 hK hP (by decide)) rfl hl.1 rfl (Nat.le_of_ble_eq_true rfl) dL_law_1614 ⟨by show _ ≤ 603072; omega, by show _ ≤ 7223402; omega⟩ (fun H locs hP hS => ?_)
  refine lv_pop hx hb dL_law_1617 rfl ?_
  refine lv_goto (tgt := 1621) hx hb dL_law_1618 (by decide) ?_
  refine lv_iinc (v := (ix + (4 : Int32))) (lv' := [(5, .int (ix + (4 : Int32))), (4, .ref (Z.2.2 57 0)), (3, .ref (Z.2.2 56 0)), (2, .ref (Z.2.2 26 0)), (1, .ref (Z.2.2 0 0)), (0, .ref b)]) hx hb dL_law_1621 hl (k := 0) rfl rfl (by decide) rfl (fun ls hl => ?_)
  refine lv_goto (tgt := 28) hx hb dL_law_1624 (by decide) ?_
  refine W.widen (k := cells + 3) (n := slots + 18) (by omega) (by omega) ?_
  exact hrc _ _ _ _ _ _ _ hk hP hS (lv_sub hl [0, 1, 2, 3, 4, 5] rfl)