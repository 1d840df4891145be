variable {p : Program} {l : Launch} {e : Env} {s : State} {m : MethodId} {below : List Frame} {meth : Method} {c : Code} {Q : State → Prop} {Z : ZT} {b L : Nat} {xs : Nat → Int32}
set_option maxHeartbeats 4000000 in
set_option maxRecDepth 100000 in
theorem law_C15 (hfl : l.stackTraces = false) (hZ : wD Z) (hx : p.tables.exec = Jvm.exec) (hb : c.code = code) (hml : c.maxLocals = 9) (hown : s.vm.findClass RL = some m.cls) (hts : ∀ w ∈ lw_all, w.before #[Value.ref b] s = true) (hE : EV (wA Z s.heap.size) s) (hK : wK Z s) (hX : va_X b L xs s s.heap) (hbl : b < s.heap.size) (hbA : ¬ wA Z s.heap.size b) {rc : Int32 → SS → SS → SS → Option Unit} {cells slots : Nat} (hcc : cells + 3 ≤ 603072) (hss : slots + 18 ≤ 7223402) (hrc : ∀ (ix : Int32) (X M O : SS) (H : Heap) (locs : List Loc) (ls : Array Slot), rc ix X M O = some () → wP Z (X, M, O) H → va_S (wA Z s.heap.size) s.heap H locs → lv_has ls 9 [(5, .int ix), (4, .ref (Z.2.2 57 0)), (3, .ref (Z.2.2 56 0)), (2, .ref (Z.2.2 26 0)), (1, .ref (Z.2.2 0 0)), (0, .ref b)] → W p l e room_1 s m #[Value.ref b] below meth c H locs (cells + 3) (slots + 18) Q (F0 m 28 ls [])) (ix : Int32) (X M O : SS) (H : Heap) (locs : List Loc) (ls : Array Slot) (hk : f_law_C15 xs L ix X M O rc = some ()) (hP : wP Z (X, M, O) H) (hS : va_S (wA Z s.heap.size) s.heap H locs) (hl : lv_has ls 9 [(5, .int ix), (4, .ref (Z.2.2 57 0)), (3, .ref (Z.2.2 56 0)), (2, .ref (Z.2.2 26 0)), (1, .ref (Z.2.2 0 0)), (0, .ref b)]) : W p l e room_1 s m #[Value.ref b] below meth c H locs cells slots Q (F0 m 688 ls []) := by
  unfold f_law_C15 at hk
  refine lv_aload_n hx hb dL_law_688 rfl (lv_at hl 4 rfl) ?_
  obtain ⟨v1, hf2, hk⟩ := b0_s hk
  refine wc_iV0 (rest := []) (As := []) ⟨hx, hb, hml, hown, hts⟩ (fun sz => k_X6_works l hfl Z hZ X M O v1 hf2 sz) (cw_RL_214 (args := _) (s := s) hts (Nat.le_of_ble_eq_true rfl) (Nat.le_of_ble_eq_true rfl)) hE hP hK hS (rv_0 hK hP (by decide)) rfl hl.1 rfl (Nat.le_of_ble_eq_true rfl) dL_law_689 ⟨by show _ ≤ 603072; omega, by show _ ≤ 7223402; omega⟩ (fun H locs hP hS => ?_)
  refine lv_pop hx hb dL_law_692 rfl ?_
  refine lv_aload_n hx hb dL_law_693 rfl (lv_at hl 3 rfl) ?_
  obtain ⟨M4, v3, hf5, hk⟩ := b1_s hk
  refine wc_iV0 (rest := []) (As := []) ⟨hx, hb, hml, hown, hts⟩ (fun sz => k_X7_works l hfl Z hZ X M O M4 v3 hf5 sz) (cw_RL_217 (args := _) (s := s) hts (Nat.le_of_ble_eq_true rfl) (Nat.le_of_ble_eq_true rfl)) hE hP hK hS (rv_26 hK hP (by decide)) rfl hl.1 rfl (Nat.le_of_ble_eq_true rfl) dL_law_694 ⟨by show _ ≤ 603072; omega, by show _ ≤ 7223402; omega⟩ (fun H locs hP hS => ?_)
  refine lv_pop hx hb dL_law_697 rfl ?_
  refine lv_goto (tgt := 1621) hx hb dL_law_698 (by decide) ?_
  refine lv_iinc (v := (ix + (4 : Int32))) (lv' := [(5, .int (ix + (4 : Int32))), (4, .ref (Z.2.2 57 0)), (3, .ref (Z.2.2 56 0)), (2, .ref (Z.2.2 26 0)), (1, .ref (Z.2.2 0 0)), (0, .ref b)]) hx hb dL_law_1621 hl (k := 0) rfl rfl (by decide) rfl (fun ls hl => ?_)
  refine lv_goto (tgt := 28) hx hb dL_law_1624 (by decide) ?_
  refine W.widen (k := cells + 3) (n := slots + 18) (by omega) (by omega) ?_
  exact hrc _ _ _ _ _ _ _ hk hP hS (lv_sub hl [0, 1, 2, 3, 4, 5] rfl)
set_option maxHeartbeats 4000000 in
set_option maxRecDepth 100000 in
theorem law_C16 (hfl : l.stackTraces = false) (hZ : wD Z) (hx : p.tables.exec = Jvm.exec) (hb : c.code = code) (hml : c.maxLocals = 9) (hown : s.vm.findClass RL = some m.cls) (hts : ∀ w ∈ lw_all, w.before #[Value.ref b] s = true) (hE : EV (wA Z s.heap.size) s) (hK : wK Z s) (hX : va_X b L xs s s.heap) (hbl : b < s.heap.size) (hbA : ¬ wA Z s.heap.size b) {rc : Int32 → SS → SS → SS → Option Unit} {cells slots : Nat} (hcc : cells + 3 ≤ 603072) (hss : slots + 18 ≤ 7223402) (hrc : ∀ (ix : Int32) (X M O : SS) (H : Heap) (locs : List Loc) (ls : Array Slot), rc ix X M O = some () → wP Z (X, M, O) H → va_S (wA Z s.heap.size) s.heap H locs → lv_has ls 9 [(5, .int ix), (4, .ref (Z.2.2 57 0)), (3, .ref (Z.2.2 56 0)), (2, .ref (Z.2.2 26 0)), (1, .ref (Z.2.2 0 0)), (0, .ref b)] → W p l e room_1 s m #[Value.ref b] below meth c H locs (cells + 3) (slots + 18) Q (F0 m 28 ls [])) (ix : Int32) (X M O : SS) (H : Heap) (locs : List Loc) (ls : Array Slot) (hk : f_law_C16 xs L ix X M O rc = some ()) (hP : wP Z (X, M, O) H) (hS : va_S (wA Z s.heap.size) s.heap H locs) (hl : lv_has ls 9 [(5, .int ix), (4, .ref (Z.2.2 57 0)), (3, .ref (Z.2.2 56 0)), (2, .ref (Z.2.2 26 0)), (1, .ref (Z.2.2 0 0)), (0, .ref b)]) : W p l e room_1 s m #[Value.ref b] below meth c H locs cells slots Q (F0 m 701 ls []) := by
  unfold f_law_C16 at hk
  refine lv_aload_n hx hb dL_law_701 rfl (lv_at hl 4 rfl) ?_
  refine lv_aload_n hx hb dL_law_702 rfl (lv_at hl 5 rfl) ?_
  refine lv_iload hx hb dL_law_703 (lv_at hl 0 rfl) ?_
  refine lv_iconst (v := (1 : Int32)) hx hb dL_law_705 (by decide) ?_
  refine lv_iadd hx hb dL_law_706 ?_
  obtain ⟨hg1, hk⟩ := gd_s hk
  refine va_sld hx hb hX hbl hbA hS hg1 dL_law_707 ?_
  refine lv_aload_n hx hb dL_law_708 rfl (lv_at hl 5 rfl) ?_
  refine lv_iload hx hb dL_law_709 (lv_at hl 0 rfl) ?_
  refine lv_iconst (v := (2 : Int32)) hx hb dL_law_711 (by decide) ?_
  refine lv_iadd hx hb dL_law_712 ?_
  obtain ⟨hg2, hk⟩ := gd_s hk
  refine va_sld hx hb hX hbl hbA hS hg2 dL_law_713 ?_
  refine lv_i2c (v := (((xs ((ix + (2 : Int32))).toNatClampNeg)).toUInt32 % 65536).toInt32) hx hb dL_law_714 rfl ?_
  refine lv_aload_n hx hb dL_law_715 rfl (lv_at hl 2 rfl) ?_
  obtain ⟨O4, v3, hf5, hk⟩ := b1_s hk
  refine wc_iSX0 (rest := []) (As := [.ref (Z.2.2 0 0), .int (xs ((ix + (1 : Int32))).toNatClampNeg), .int (((xs ((ix + (2 : Int32))).toNatClampNeg)).toUInt32 % 65536).toInt32, .ref (Z.2.2 56 0)]) ⟨hx, hb, hml, hown, hts⟩ (fun sz => k_L_of l hfl Z hZ X M O (xs ((ix + (1 : Int32))).toNatClampNeg) (((xs ((ix + (2 : Int32))).toNatClampNeg)).toUInt32 % 65536).toInt32 O4 v3 hf5 sz) (cw_RL_218 (args := _) (s := s) hts (Nat.le_of_ble_eq_true rfl) (Nat.le_of_ble_eq_true rfl)) hE hP hK hS  rfl hl.1 rfl (Nat.le_of_ble_eq_true rfl) dL_law_716 ⟨by show _ ≤ 603072; omega, by show _ ≤ 7223402; omega⟩ (fun H locs hP hS => ?_)
  refine lv_istore (lv' := [(6, .int v3), (5, .int ix), (4, .ref (Z.2.2 57 0)), (3, .ref (Z.2.2 56 0)), (2, .ref (Z.2.2 26 0)), (1, .ref (Z.2.2 0 0)), (0, .ref b)]) hx hb dL_law_719 hl (by decide) rfl (fun ls hl => ?_)
  refine lv_aload_n hx hb dL_law_721 rfl (lv_at hl 4 rfl) ?_
  refine lv_aload_n hx hb dL_law_722 rfl (lv_at hl 6 rfl) ?_
  refine lv_iload hx hb dL_law_723 (lv_at hl 1 rfl) ?_
  refine lv_iconst (v := (1 : Int32)) hx hb dL_law_725 (by decide) ?_
  refine lv_iadd hx hb dL_law_726 ?_
  obtain ⟨hg6, hk⟩ := gd_s hk
  refine va_sld hx hb hX hbl hbA hS hg6 dL_law_727 ?_
  refine lv_aload_n hx hb dL_law_728 rfl (lv_at hl 6 rfl) ?_
  refine lv_iload hx hb dL_law_729 (lv_at hl 1 rfl) ?_
  refine lv_iconst (v := (2 : Int32)) hx hb dL_law_731 (by decide) ?_
  refine lv_iadd hx hb dL_law_732 ?_
  obtain ⟨hg7, hk⟩ := gd_s hk
  refine va_sld hx hb hX hbl hbA hS hg7 dL_law_733 ?_
  refine lv_i2c (v := (((xs ((ix + (2 : Int32))).toNatClampNeg)).toUInt32 % 65536).toInt32) hx hb dL_law_734 rfl ?_
  obtain ⟨M9, v8, hf10, hk⟩ := b1_s hk
  refine wc_iV0 (rest := []) (As := [.int (xs ((ix + (1 : Int32))).toNatClampNeg), .int (((xs ((ix + (2 : Int32))).toNatClampNeg)).toUInt32 % 65536).toInt32]) ⟨hx, hb, hml, hown, hts⟩ (fun sz => k_X7_of l hfl Z hZ X M O4 (xs ((ix + (1 : Int32))).toNatClampNeg) (((xs ((ix + (2 : Int32))).toNatClampNeg)).toUInt32 % 65536).toInt32 M9 v8 hf10 sz) (cw_RL_221 (args := _) (s := s) hts (Nat.le_of_ble_eq_true rfl) (Nat.le_of_ble_eq_true rfl)) hE hP hK hS (rv_26 hK hP (by decide)) rfl hl.1 rfl (Nat.le_of_ble_eq_true rfl) dL_law_735 ⟨by show _ ≤ 603072; omega, by show _ ≤ 7223402; omega⟩ (fun H locs hP hS => ?_)
  refine lv_istore (lv' := [(7, .int v8), (6, .int v3), (5, .int ix), (4, .ref (Z.2.2 57 0)), (3, .ref (Z.2.2 56 0)), (2, .ref (Z.2.2 26 0)), (1, .ref (Z.2.2 0 0)), (0, .ref b)]) hx hb dL_law_738 hl (by decide) rfl (fun ls hl => ?_)
  refine lv_goto (tgt := 1621) hx hb dL_law_740 (by decide) ?_
  refine lv_iinc (v := (ix + (4 : Int32))) (lv' := [(5, .int (ix + (4 : Int32))), (7, .int v8), (6, .int v3), (4, .ref (Z.2.2 57 0)), (3, .ref (Z.2.2 56 0)), (2, .ref (Z.2.2 26 0)), (1, .ref (Z.2.2 0 0)), (0, .ref b)]) hx hb dL_law_1621 hl (k := 2) rfl rfl (by decide) rfl (fun ls hl => ?_)
  refine lv_goto (tgt := 28) hx hb dL_law_1624 (by decide) ?_
  refine W.widen (k := cells + 3) (n := slots + 18) (by omega) (by omega) ?_
  exact hrc _ _ _ _ _ _ _ hk hP hS (lv_sub hl [0, 3, 4, 5, 6, 7] rfl)
set_option maxHeartbeats 4000000 in
set_option maxRecDepth 100000 in
theorem law_C17 (hfl : l.stackTraces = false) (hZ : wD Z) (hx : p.tables.exec = Jvm.exec) (hb : c.code = code) (hml : c.maxLocals = 9) (hown : s.vm.findClass RL = some m.cls) (hts : ∀ w ∈ lw_all, w.before #[Value.ref b] s = true) (hE : EV (wA Z s.heap.size) s) (hK : wK Z s) (hX : va_X b L xs s s.heap) (hbl : b < s.heap.size) (hbA : ¬ wA Z s.heap.size b) {rc : Int32 → SS → SS → SS → Option Unit} {cells slots : Nat} (hcc : cells + 3 ≤ 603072) (hss : slots + 18 ≤ 7223402) (hrc : ∀ (ix : Int32) (X M O : SS) (H : Heap) (locs : List Loc) (ls : Array Slot), rc ix X M O = some () → wP Z (X, M, O) H → va_S (wA Z s.heap.size) s.heap H locs → lv_has ls 9 [(5, .int ix), (4, .ref (Z.2.2 57 0)), (3, .ref (Z.2.2 56 0)), (2, .ref (Z.2.2 26 0)), (1, .ref (Z.2.2 0 0)), (0, .ref b)] → W p l e room_1 s m #[Value.ref b] below meth c H locs (cells + 3) (slots + 18) Q (F0 m 28 ls [])) (ix : Int32) (X M O : SS) (H : Heap) (locs : List Loc) (ls : Array Slot) (hk : f_law_C17 xs L ix X M O rc = some ()) (hP : wP Z (X, M, O) H) (hS : va_S (wA Z s.heap.size) s.heap H locs) (hl : lv_has ls 9 [(5, .int ix), (4, .ref (Z.2.2 57 0)), (3, .ref (Z.2.2 56 0)), (2, .ref (Z.2.2 26 0)), (1, .ref (Z.2.2 0 0)), (0, .ref b)]) : W p l e room_1 s m #[Value.ref b] below meth c H locs cells slots Q (F0 m 743 ls []) := by
  unfold f_law_C17 at hk
  refine lv_aload_n hx hb dL_law_743 rfl (lv_at hl 4 rfl) ?_
  refine lv_aload_n hx hb dL_law_744 rfl (lv_at hl 5 rfl) ?_
  refine lv_iload hx hb dL_law_745 (lv_at hl 0 rfl) ?_
  refine lv_iconst (v := (1 : Int32)) hx hb dL_law_747 (by decide) ?_
  refine lv_iadd hx hb dL_law_748 ?_
  obtain ⟨hg1, hk⟩ := gd_s hk
  refine va_sld hx hb hX hbl hbA hS hg1 dL_law_749 ?_
  refine lv_aload_n hx hb dL_law_750 rfl (lv_at hl 2 rfl) ?_
  obtain ⟨O3, v2, hf4, hk⟩ := b1_s hk
  refine wc_iSX0 (rest := []) (As := [.ref (Z.2.2 0 0), .int (xs ((ix + (1 : Int32))).toNatClampNeg), .ref (Z.2.2 56 0)]) ⟨hx, hb, hml, hown, hts⟩ (fun sz => k_L_state l hfl Z hZ X M O (xs ((ix + (1 : Int32))).toNatClampNeg) O3 v2 hf4 sz) (cw_RL_222 (args := _) (s := s) hts (Nat.le_of_ble_eq_true rfl) (Nat.le_of_ble_eq_true rfl)) hE hP hK hS  rfl hl.1 rfl (Nat.le_of_ble_eq_true rfl) dL_law_751 ⟨by show _ ≤ 603072; omega, by show _ ≤ 7223402; omega⟩ (fun H locs hP hS => ?_)
  refine lv_istore (lv' := [(6, .int v2), (5, .int ix), (4, .ref (Z.2.2 57 0)), (3, .ref (Z.2.2 56 0)), (2, .ref (Z.2.2 26 0)), (1, .ref (Z.2.2 0 0)), (0, .ref b)]) hx hb dL_law_754 hl (by decide) rfl (fun ls hl => ?_)
  refine lv_aload_n hx hb dL_law_756 rfl (lv_at hl 4 rfl) ?_
  refine lv_aload_n hx hb dL_law_757 rfl (lv_at hl 6 rfl) ?_
  refine lv_iload hx hb dL_law_758 (lv_at hl 1 rfl) ?_
  refine lv_iconst (v := (1 : Int32)) hx hb dL_law_760 (by decide) ?_
  refine lv_iadd hx hb dL_law_761 ?_
  obtain ⟨hg5, hk⟩ := gd_s hk
  refine va_sld hx hb hX hbl hbA hS hg5 dL_law_762 ?_
  obtain ⟨M7, v6, hf8, hk⟩ := b1_s hk
  refine wc_iV0 (rest := []) (As := [.int (xs ((ix + (1 : Int32))).toNatClampNeg)]) ⟨hx, hb, hml, hown, hts⟩ (fun sz => k_X7_state l hfl Z hZ X M O3 (xs ((ix + (1 : Int32))).toNatClampNeg) M7 v6 hf8 sz) (cw_RL_224 (args := _) (s := s) hts (Nat.le_of_ble_eq_true rfl) (Nat.le_of_ble_eq_true rfl)) hE hP hK hS (rv_26 hK hP (by decide)) rfl hl.1 rfl (Nat.le_of_ble_eq_true rfl) dL_law_763 ⟨by show _ ≤ 603072; omega, by show _ ≤ 7223402; omega⟩ (fun H locs hP hS => ?_)
  refine lv_istore (lv' := [(7, .int v6), (6, .int v2), (5, .int ix), (4, .ref (Z.2.2 57 0)), (3, .ref (Z.2.2 56 0)), (2, .ref (Z.2.2 26 0)), (1, .ref (Z.2.2 0 0)), (0, .ref b)]) hx hb dL_law_766 hl (by decide) rfl (fun ls hl => ?_)
  refine lv_goto (tgt := 1621) hx hb dL_law_768 (by decide) ?_
  refine lv_iinc (v := (ix + (4 : Int32))) (lv' := [(5, .int (ix + (4 : Int32))), (7, .int v6), (6, .int v2), (4, .ref (Z.2.2 57 0)), (3, .ref (Z.2.2 56 0)), (2, .ref (Z.2.2 26 0)), (1, .ref (Z.2.2 0 0)), (0, .ref b)]) hx hb dL_law_1621 hl (k := 2) rfl rfl (by decide) rfl (fun ls hl => ?_)
  refine lv_goto (tgt := 28) hx hb dL_law_1624 (by decide) ?_
  refine W.widen (k := cells + 3) (n := slots + 18) (by omega) (by omega) ?_
  exact hrc _ _ _ _ _ _ _ hk hP hS (lv_sub hl [0, 3, 4, 5, 6, 7] rfl)
set_option maxHeartbeats 4000000 in
set_option maxRecDepth 100000 in
theorem law_C18 (hfl : l.stackTraces = false) (hZ : wD Z) (hx : p.tables.exec = Jvm.exec) (hb : c.code = code) (hml : c.maxLocals = 9) (hown : s.vm.findClass RL = some m.cls) (hts : ∀ w ∈ lw_all, w.before #[Value.ref b] s = true) (hE : EV (wA Z s.heap.size) s) (hK : wK Z s) (hX : va_X b L xs s s.heap) (hbl : b < s.heap.size) (hbA : ¬ wA Z s.heap.size b) {rc : Int32 → SS → SS → SS → Option Unit} {cells slots : Nat} (hcc : cells + 3 ≤ 603072) (hss : slots + 18 ≤ 7223402) (hrc : ∀ (ix : Int32) (X M O : SS) (H : Heap) (locs : List Loc) (ls : Array Slot), rc ix X M O = some () → wP Z (X, M, O) H → va_S (wA Z s.heap.size) s.heap H locs → lv_has ls 9 [(5, .int ix), (4, .ref (Z.2.2 57 0)), (3, .ref (Z.2.2 56 0)), (2, .ref (Z.2.2 26 0)), (1, .ref (Z.2.2 0 0)), (0, .ref b)] → W p l e room_1 s m #[Value.ref b] below meth c H locs (cells + 3) (slots + 18) Q (F0 m 28 ls [])) (ix : Int32) (X M O : SS) (H : Heap) (locs : List Loc) (ls : Array Slot) (hk : f_law_C18 xs L ix X M O rc = some ()) (hP : wP Z (X, M, O) H) (hS : va_S (wA Z s.heap.size) s.heap H locs) (hl : lv_has ls 9 [(5, .int ix), (4, .ref (Z.2.2 57 0)), (3, .ref (Z.2.2 56 0)), (2, .ref (Z.2.2 26 0)), (1, .ref (Z.2.2 0 0)), (0, .ref b)]) : W p l e room_1 s m #[Value.ref b] below meth c H locs cells slots Q (F0 m 771 ls []) := by
  unfold f_law_C18 at hk
  refine lv_aload_n hx hb dL_law_771 rfl (lv_at hl 4 rfl) ?_
  refine lv_aload_n hx hb dL_law_772 rfl (lv_at hl 5 rfl) ?_
  refine lv_iload hx hb dL_law_773 (lv_at hl 0 rfl) ?_
  refine lv_iconst (v := (1 : Int32)) hx hb dL_law_775 (by decide) ?_
  refine lv_iadd hx hb dL_law_776 ?_
  obtain ⟨hg1, hk⟩ := gd_s hk
  refine va_sld hx hb hX hbl hbA hS hg1 dL_law_777 ?_
  refine lv_aload_n hx hb dL_law_778 rfl (lv_at hl 2 rfl) ?_
  obtain ⟨O3, v2, hf4, hk⟩ := b1_s hk
  refine wc_iSX0 (rest := []) (As := [.ref (Z.2.2 0 0), .int (xs ((ix + (1 : Int32))).toNatClampNeg), .ref (Z.2.2 56 0)]) ⟨hx, hb, hml, hown, hts⟩ (fun sz => k_L_sum l hfl Z hZ X M O (xs ((ix + (1 : Int32))).toNatClampNeg) O3 v2 hf4 sz) (cw_RL_225 (args := _) (s := s) hts (Nat.le_of_ble_eq_true rfl) (Nat.le_of_ble_eq_true rfl)) hE hP hK hS  rfl hl.1 rfl (Nat.le_of_ble_eq_true rfl) dL_law_779 ⟨by show _ ≤ 603072; omega, by show _ ≤ 7223402; omega⟩ (fun H locs hP hS => ?_)
  refine lv_istore (lv' := [(6, .int v2), (5, .int ix), (4, .ref (Z.2.2 57 0)), (3, .ref (Z.2.2 56 0)), (2, .ref (Z.2.2 26 0)), (1, .ref (Z.2.2 0 0)), (0, .ref b)]) hx hb dL_law_782 hl (by decide) rfl (fun ls hl => ?_)
  refine lv_aload_n hx hb dL_law_784 rfl (lv_at hl 4 rfl) ?_
  refine lv_aload_n hx hb dL_law_785 rfl (lv_at hl 6 rfl) ?_
  refine lv_iload hx hb dL_law_786 (lv_at hl 1 rfl) ?_
  refine lv_iconst (v := (1 : Int32)) hx hb dL_law_788 (by decide) ?_
  refine lv_iadd hx hb dL_law_789 ?_
  obtain ⟨hg5, hk⟩ := gd_s hk
  refine va_sld hx hb hX hbl hbA hS hg5 dL_law_790 ?_
  obtain ⟨M7, v6, hf8, hk⟩ := b1_s hk
  refine wc_lV0 (rest := []) (As := [.int (xs ((ix + (1 : Int32))).toNatClampNeg)]) ⟨hx, hb, hml, hown, hts⟩ (fun sz => k_X7_sum l hfl Z hZ X M O3 (xs ((ix + (1 : Int32))).toNatClampNeg) M7 v6 hf8 sz) (cw_RL_227 (args := _) (s := s) hts (Nat.le_of_ble_eq_true rfl) (Nat.le_of_ble_eq_true rfl)) hE hP hK hS (rv_26 hK hP (by decide)) rfl hl.1 rfl (Nat.le_of_ble_eq_true rfl) dL_law_791 ⟨by show _ ≤ 603072; omega, by show _ ≤ 7223402; omega⟩ (fun H locs hP hS => ?_)
  refine lv_lstore (lv' := [(7, .long v6), (6, .int v2), (5, .int ix), (4, .ref (Z.2.2 57 0)), (3, .ref (Z.2.2 56 0)), (2, .ref (Z.2.2 26 0)), (1, .ref (Z.2.2 0 0)), (0, .ref b)]) hx hb dL_law_794 hl (by decide) rfl (fun ls hl => ?_)
  refine lv_goto (tgt := 1621) hx hb dL_law_796 (by decide) ?_
  refine lv_iinc (v := (ix + (4 : Int32))) (lv' := [(5, .int (ix + (4 : Int32))), (7, .long v6), (6, .int v2), (4, .ref (Z.2.2 57 0)), (3, .ref (Z.2.2 56 0)), (2, .ref (Z.2.2 26 0)), (1, .ref (Z.2.2 0 0)), (0, .ref b)]) hx hb dL_law_1621 hl (k := 2) rfl rfl (by decide) rfl (fun ls hl => ?_)
  refine lv_goto (tgt := 28) hx hb dL_law_1624 (by decide) ?_
  refine W.widen (k := cells + 3) (n := slots + 18) (by omega) (by omega) ?_
  exact hrc _ _ _ _ _ _ _ hk hP hS (lv_sub hl [0, 3, 4, 5, 6, 7] rfl)
set_option maxHeartbeats 4000000 in
set_option maxRecDepth 100000 in
theorem law_C19 (hfl : l.stackTraces = false) (hZ : wD Z) (hx : p.tables.exec = Jvm.exec) (hb : c.code = code) (hml : c.maxLocals = 9) (hown : s.vm.findClass RL = some m.cls) (hts : ∀ w ∈ lw_all, w.before #[Value.ref b] s = true) (hE : EV (wA Z s.heap.size) s) (hK : wK Z s) (hX : va_X b L xs s s.heap) (hbl : b < s.heap.size) (hbA : ¬ wA Z s.heap.size b) {rc : Int32 → SS → SS → SS → Option Unit} {cells slots : Nat} (hcc : cells + 3 ≤ 603072) (hss : slots + 18 ≤ 7223402) (hrc : ∀ (ix : Int32) (X M O : SS) (H : Heap) (locs : List Loc) (ls : Array Slot), rc ix X M O = some () → wP Z (X, M, O) H → va_S (wA Z s.heap.size) s.heap H locs → lv_has ls 9 [(5, .int ix), (4, .ref (Z.2.2 57 0)), (3, .ref (Z.2.2 56 0)), (2, .ref (Z.2.2 26 0)), (1, .ref (Z.2.2 0 0)), (0, .ref b)] → W p l e room_1 s m #[Value.ref b] below meth c H locs (cells + 3) (slots + 18) Q (F0 m 28 ls [])) (ix : Int32) (X M O : SS) (H : Heap) (locs : List Loc) (ls : Array Slot) (hk : f_law_C19 xs L ix X M O rc = some ()) (hP : wP Z (X, M, O) H) (hS : va_S (wA Z s.heap.size) s.heap H locs) (hl : lv_has ls 9 [(5, .int ix), (4, .ref (Z.2.2 57 0)), (3, .ref (Z.2.2 56 0)), (2, .ref (Z.2.2 26 0)), (1, .ref (Z.2.2 0 0)), (0, .ref b)]) : W p l e room_1 s m #[Value.ref b] below meth c H locs cells slots Q (F0 m 799 ls []) := by
  unfold f_law_C19 at hk
  refine lv_aload_n hx hb dL_law_799 rfl (lv_at hl 4 rfl) ?_
  refine lv_aload_n hx hb dL_law_800 rfl (lv_at hl 5 rfl) ?_
  refine lv_iload hx hb dL_law_801 (lv_at hl 0 rfl) ?_
  refine lv_iconst (v := (1 : Int32)) hx hb dL_law_803 (by decide) ?_
  refine lv_iadd hx hb dL_law_804 ?_
  obtain ⟨hg1, hk⟩ := gd_s hk
  refine va_sld hx hb hX hbl hbA hS hg1 dL_law_805 ?_
  refine lv_aload_n hx hb dL_law_806 rfl (lv_at hl 5 rfl) ?_
  refine lv_iload hx hb dL_law_807 (lv_at hl 0 rfl) ?_
  refine lv_iconst (v := (2 : Int32)) hx hb dL_law_809 (by decide) ?_
  refine lv_iadd hx hb dL_law_810 ?_
  obtain ⟨hg2, hk⟩ := gd_s hk
  refine va_sld hx hb hX hbl hbA hS hg2 dL_law_811 ?_
  refine lv_aload_n hx hb dL_law_812 rfl (lv_at hl 2 rfl) ?_
  obtain ⟨X4, O5, v3, hf6, hk⟩ := b2_s hk
  refine wc_iSX0 (rest := []) (As := [.ref (Z.2.2 0 0), .int (xs ((ix + (1 : Int32))).toNatClampNeg), .int (xs ((ix + (2 : Int32))).toNatClampNeg), .ref (Z.2.2 56 0)]) ⟨hx, hb, hml, hown, hts⟩ (fun sz => k_L_steps l hfl Z hZ X M O (xs ((ix + (1 : Int32))).toNatClampNeg) (xs ((ix + (2 : Int32))).toNatClampNeg) X4 O5 v3 hf6 sz) (cw_RL_228 (args := _) (s := s) hts (Nat.le_of_ble_eq_true rfl) (Nat.le_of_ble_eq_true rfl)) hE hP hK hS  rfl hl.1 rfl (Nat.le_of_ble_eq_true rfl) dL_law_813 ⟨by show _ ≤ 603072; omega, by show _ ≤ 7223402; omega⟩ (fun H locs hP hS => ?_)
  refine lv_istore (lv' := [(6, .int v3), (5, .int ix), (4, .ref (Z.2.2 57 0)), (3, .ref (Z.2.2 56 0)), (2, .ref (Z.2.2 26 0)), (1, .ref (Z.2.2 0 0)), (0, .ref b)]) hx hb dL_law_816 hl (by decide) rfl (fun ls hl => ?_)
  refine lv_aload_n hx hb dL_law_818 rfl (lv_at hl 4 rfl) ?_
  refine lv_aload_n hx hb dL_law_819 rfl (lv_at hl 6 rfl) ?_
  refine lv_iload hx hb dL_law_820 (lv_at hl 1 rfl) ?_
  refine lv_iconst (v := (1 : Int32)) hx hb dL_law_822 (by decide) ?_
  refine lv_iadd hx hb dL_law_823 ?_
  obtain ⟨hg7, hk⟩ := gd_s hk
  refine va_sld hx hb hX hbl hbA hS hg7 dL_law_824 ?_
  refine lv_aload_n hx hb dL_law_825 rfl (lv_at hl 6 rfl) ?_
  refine lv_iload hx hb dL_law_826 (lv_at hl 1 rfl) ?_
  refine lv_iconst (v := (2 : Int32)) hx hb dL_law_828 (by decide) ?_
  refine lv_iadd hx hb dL_law_829 ?_
  obtain ⟨hg8, hk⟩ := gd_s hk
  refine va_sld hx hb hX hbl hbA hS hg8 dL_law_830 ?_
  obtain ⟨M10, v9, hf11, hk⟩ := b1_s hk
  refine wc_iV0 (rest := []) (As := [.int (xs ((ix + (1 : Int32))).toNatClampNeg), .int (xs ((ix + (2 : Int32))).toNatClampNeg)]) ⟨hx, hb, hml, hown, hts⟩ (fun sz => k_X7_steps l hfl Z hZ X4 M O5 (xs ((ix + (1 : Int32))).toNatClampNeg) (xs ((ix + (2 : Int32))).toNatClampNeg) M10 v9 hf11 sz) (cw_RL_230 (args := _) (s := s) hts (Nat.le_of_ble_eq_true rfl) (Nat.le_of_ble_eq_true rfl)) hE hP hK hS (rv_26 hK hP (by decide)) rfl hl.1 rfl (Nat.le_of_ble_eq_true rfl) dL_law_831 ⟨by show _ ≤ 603072; omega, by show _ ≤ 7223402; omega⟩ (fun H locs hP hS => ?_)
  refine lv_istore (lv' := [(7, .int v9), (6, .int v3), (5, .int ix), (4, .ref (Z.2.2 57 0)), (3, .ref (Z.2.2 56 0)), (2, .ref (Z.2.2 26 0)), (1, .ref (Z.2.2 0 0)), (0, .ref b)]) hx hb dL_law_834 hl (by decide) rfl (fun ls hl => ?_)
  refine lv_goto (tgt := 1621) hx hb dL_law_836 (by decide) ?_
  refine lv_iinc (v := (ix + (4 : Int32))) (lv' := [(5, .int (ix + (4 : Int32))), (7, .int v9), (6, .int v3), (4, .ref (Z.2.2 57 0)), (3, .ref (Z.2.2 56 0)), (2, .ref (Z.2.2 26 0)), (1, .ref (Z.2.2 0 0)), (0, .ref b)]) hx hb dL_law_1621 hl (k := 2) rfl rfl (by decide) rfl (fun ls hl => ?_)
  refine lv_goto (tgt := 28) hx hb dL_law_1624 (by decide) ?_
  refine W.widen (k := cells + 3) (n := slots + 18) (by omega) (by omega) ?_
  exact hrc _ _ _ _ _ _ _ hk hP hS (lv_sub hl [0, 3, 4, 5, 6, 7] rfl)
set_option maxHeartbeats 4000000 in
set_option maxRecDepth 100000 in
theorem law_C20 (hfl : l.stackTraces = false) (hZ : wD Z) (hx : p.tables.exec = Jvm.exec) (hb : c.code = code) (hml : c.maxLocals = 9) (hown : s.vm.findClass RL = some m.cls) (hts : ∀ w ∈ lw_all, w.before #[Value.ref b] s = true) (hE : EV (wA Z s.heap.size) s) (hK : wK Z s) (hX : va_X b L xs s s.heap) (hbl : b < s.heap.size) (hbA : ¬ wA Z s.heap.size b) {rc : Int32 → SS → SS → SS → Option Unit} {cells slots : Nat} (hcc : cells + 3 ≤ 603072) (hss : slots + 18 ≤ 7223402) (hrc : ∀ (ix : Int32) (X M O : SS) (H : Heap) (locs : List Loc) (ls : Array Slot), rc ix X M O = some () → wP Z (X, M, O) H → va_S (wA Z s.heap.size) s.heap H locs → lv_has ls 9 [(5, .int ix), (4, .ref (Z.2.2 57 0)), (3, .ref (Z.2.2 56 0)), (2, .ref (Z.2.2 26 0)), (1, .ref (Z.2.2 0 0)), (0, .ref b)] → W p l e room_1 s m #[Value.ref b] below meth c H locs (cells + 3) (slots + 18) Q (F0 m 28 ls [])) (ix : Int32) (X M O : SS) (H : Heap) (locs : List Loc) (ls : Array Slot) (hk : f_law_C20 xs L ix X M O rc = some ()) (hP : wP Z (X, M, O) H) (hS : va_S (wA Z s.heap.size) s.heap H locs) (hl : lv_has ls 9 [(5, .int ix), (4, .ref (Z.2.2 57 0)), (3, .ref (Z.2.2 56 0)), (2, .ref (Z.2.2 26 0)), (1, .ref (Z.2.2 0 0)), (0, .ref b)]) : W p l e room_1 s m #[Value.ref b] below meth c H locs cells slots Q (F0 m 839 ls []) := by
  unfold f_law_C20 at hk
  refine lv_aload_n hx hb dL_law_839 rfl (lv_at hl 4 rfl) ?_
  refine lv_aload_n hx hb dL_law_840 rfl (lv_at hl 5 rfl) ?_
  refine lv_iload hx hb dL_law_841 (lv_at hl 0 rfl) ?_
  refine lv_iconst (v := (1 : Int32)) hx hb dL_law_843 (by decide) ?_
  refine lv_iadd hx hb dL_law_844 ?_
  obtain ⟨hg1, hk⟩ := gd_s hk
  refine va_sld hx hb hX hbl hbA hS hg1 dL_law_845 ?_
  refine lv_aload_n hx hb dL_law_846 rfl (lv_at hl 2 rfl) ?_
  obtain ⟨O3, v2, hf4, hk⟩ := b1_s hk
  refine wc_iSX0 (rest := []) (As := [.ref (Z.2.2 0 0), .int (xs ((ix + (1 : Int32))).toNatClampNeg), .ref (Z.2.2 56 0)]) ⟨hx, hb, hml, hown, hts⟩ (fun sz => k_L_hasBody l hfl Z hZ X M O (xs ((ix + (1 : Int32))).toNatClampNeg) O3 v2 hf4 sz) (cw_RL_231 (args := _) (s := s) hts (Nat.le_of_ble_eq_true rfl) (Nat.le_of_ble_eq_true rfl)) hE hP hK hS  rfl hl.1 rfl (Nat.le_of_ble_eq_true rfl) dL_law_847 ⟨by show _ ≤ 603072; omega, by show _ ≤ 7223402; omega⟩ (fun H locs hP hS => ?_)
  refine lv_istore (lv' := [(6, .int v2), (5, .int ix), (4, .ref (Z.2.2 57 0)), (3, .ref (Z.2.2 56 0)), (2, .ref (Z.2.2 26 0)), (1, .ref (Z.2.2 0 0)), (0, .ref b)]) hx hb dL_law_850 hl (by decide) rfl (fun ls hl => ?_)
  refine lv_aload_n hx hb dL_law_852 rfl (lv_at hl 4 rfl) ?_
  refine lv_aload_n hx hb dL_law_853 rfl (lv_at hl 6 rfl) ?_
  refine lv_iload hx hb dL_law_854 (lv_at hl 1 rfl) ?_
  refine lv_iconst (v := (1 : Int32)) hx hb dL_law_856 (by decide) ?_
  refine lv_iadd hx hb dL_law_857 ?_
  obtain ⟨hg5, hk⟩ := gd_s hk
  refine va_sld hx hb hX hbl hbA hS hg5 dL_law_858 ?_
  obtain ⟨M7, v6, hf8, hk⟩ := b1_s hk
  refine wc_iV0 (rest := []) (As := [.int (xs ((ix + (1 : Int32))).toNatClampNeg)]) ⟨hx, hb, hml, hown, hts⟩ (fun sz => k_X7_hasBody l hfl Z hZ X M O3 (xs ((ix + (1 : Int32))).toNatClampNeg) M7 v6 hf8 sz) (cw_RL_233 (args := _) (s := s) hts (Nat.le_of_ble_eq_true rfl) (Nat.le_of_ble_eq_true rfl)) hE hP hK hS (rv_26 hK hP (by decide)) rfl hl.1 rfl (Nat.le_of_ble_eq_true rfl) dL_law_859 ⟨by show _ ≤ 603072; omega, by show _ ≤ 7223402; omega⟩ (fun H locs hP hS => ?_)
  refine lv_istore (lv' := [(7, .int v6), (6, .int v2), (5, .int ix), (4, .ref (Z.2.2 57 0)), (3, .ref (Z.2.2 56 0)), (2, .ref (Z.2.2 26 0)), (1, .ref (Z.2.2 0 0)), (0, .ref b)]) hx hb dL_law_862 hl (by decide) rfl (fun ls hl => ?_)
  refine lv_goto (tgt := 1621) hx hb dL_law_864 (by decide) ?_
  refine lv_iinc (v := (ix + (4 : Int32))) (lv' := [(5, .int (ix + (4 : Int32))), (7, .int v6), (6, .int v2), (4, .ref (Z.2.2 57 0)), (3, .ref (Z.2.2 56 0)), (2, .ref (Z.2.2 26 0)), (1, .ref (Z.2.2 0 0)), (0, .ref b)]) hx hb dL_law_1621 hl (k := 2) rfl rfl (by decide) rfl (fun ls hl => ?_)
  refine lv_goto (tgt := 28) hx hb dL_law_1624 (by decide) ?_
  refine W.widen (k := cells + 3) (n := slots + 18) (by omega) (by omega) ?_
  exact hrc _ _ _ _ _ _ _ hk hP hS (lv_sub hl [0, 3, 4, 5, 6, 7] rfl)
set_option maxHeartbeats 4000000 in
set_option maxRecDepth 100000 in
theorem law_C21 (hfl : l.stackTraces = false) (hZ : wD Z) (hx : p.tables.exec = Jvm.exec) (hb : c.code = code) (hml : c.maxLocals = 9) (hown : s.vm.findClass RL = some m.cls) (hts : ∀ w ∈ lw_all, w.before #[Value.ref b] s = true) (hE : EV (wA Z s.heap.size) s) (hK : wK Z s) (hX : va_X b L xs s s.heap) (hbl : b < s.heap.size) (hbA : ¬ wA Z s.heap.size b) {rc : Int32 → SS → SS → SS → Option Unit} {cells slots : Nat} (hcc : cells + 3 ≤ 603072) (hss : slots + 18 ≤ 7223402) (hrc : ∀ (ix : Int32) (X M O : SS) (H : Heap) (locs : List Loc) (ls : Array Slot), rc ix X M O = some () → wP Z (X, M, O) H → va_S (wA Z s.heap.size) s.heap H locs → lv_has ls 9 [(5, .int ix), (4, .ref (Z.2.2 57 0)), (3, .ref (Z.2.2 56 0)), (2, .ref (Z.2.2 26 0)), (1, .ref (Z.2.2 0 0)), (0, .ref b)] → W p l e room_1 s m #[Value.ref b] below meth c H locs (cells + 3) (slots + 18) Q (F0 m 28 ls [])) (ix : Int32) (X M O : SS) (H : Heap) (locs : List Loc) (ls : Array Slot) (hk : f_law_C21 xs L ix X M O rc = some ()) (hP : wP Z (X, M, O) H) (hS : va_S (wA Z s.heap.size) s.heap H locs) (hl : lv_has ls 9 [(5, .int ix), (4, .ref (Z.2.2 57 0)), (3, .ref (Z.2.2 56 0)), (2, .ref (Z.2.2 26 0)), (1, .ref (Z.2.2 0 0)), (0, .ref b)]) : W p l e room_1 s m #[Value.ref b] below meth c H locs cells slots Q (F0 m 867 ls []) := by
  unfold f_law_C21 at hk
  refine lv_aload_n hx hb dL_law_867 rfl (lv_at hl 4 rfl) ?_
  refine lv_aload_n hx hb dL_law_868 rfl (lv_at hl 5 rfl) ?_
  refine lv_iload hx hb dL_law_869 (lv_at hl 0 rfl) ?_
  refine lv_iconst (v := (1 : Int32)) hx hb dL_law_871 (by decide) ?_
  refine lv_iadd hx hb dL_law_872 ?_
  obtain ⟨hg1, hk⟩ := gd_s hk
  refine va_sld hx hb hX hbl hbA hS hg1 dL_law_873 ?_
  refine lv_aload_n hx hb dL_law_874 rfl (lv_at hl 5 rfl) ?_
  refine lv_iload hx hb dL_law_875 (lv_at hl 0 rfl) ?_
  refine lv_iconst (v := (2 : Int32)) hx hb dL_law_877 (by decide) ?_
  refine lv_iadd hx hb dL_law_878 ?_
  obtain ⟨hg2, hk⟩ := gd_s hk
  refine va_sld hx hb hX hbl hbA hS hg2 dL_law_879 ?_
  refine lv_aload_n hx hb dL_law_880 rfl (lv_at hl 2 rfl) ?_
  obtain ⟨O4, v3, hf5, hk⟩ := b1_s hk
  refine wc_iSX0 (rest := []) (As := [.ref (Z.2.2 0 0), .int (xs ((ix + (1 : Int32))).toNatClampNeg), .int (xs ((ix + (2 : Int32))).toNatClampNeg), .ref (Z.2.2 56 0)]) ⟨hx, hb, hml, hown, hts⟩ (fun sz => k_L_letter l hfl Z hZ X M O (xs ((ix + (1 : Int32))).toNatClampNeg) (xs ((ix + (2 : Int32))).toNatClampNeg) O4 v3 hf5 sz) (cw_RL_234 (args := _) (s := s) hts (Nat.le_of_ble_eq_true rfl) (Nat.le_of_ble_eq_true rfl)) hE hP hK hS  rfl hl.1 rfl (Nat.le_of_ble_eq_true rfl) dL_law_881 ⟨by show _ ≤ 603072; omega, by show _ ≤ 7223402; omega⟩ (fun H locs hP hS => ?_)
  refine lv_istore (lv' := [(6, .int v3), (5, .int ix), (4, .ref (Z.2.2 57 0)), (3, .ref (Z.2.2 56 0)), (2, .ref (Z.2.2 26 0)), (1, .ref (Z.2.2 0 0)), (0, .ref b)]) hx hb dL_law_884 hl (by decide) rfl (fun ls hl => ?_)
  refine lv_aload_n hx hb dL_law_886 rfl (lv_at hl 4 rfl) ?_
  refine lv_aload_n hx hb dL_law_887 rfl (lv_at hl 6 rfl) ?_
  refine lv_iload hx hb dL_law_888 (lv_at hl 1 rfl) ?_
  refine lv_iconst (v := (1 : Int32)) hx hb dL_law_890 (by decide) ?_
  refine lv_iadd hx hb dL_law_891 ?_
  obtain ⟨hg6, hk⟩ := gd_s hk
  refine va_sld hx hb hX hbl hbA hS hg6 dL_law_892 ?_
  refine lv_aload_n hx hb dL_law_893 rfl (lv_at hl 6 rfl) ?_
  refine lv_iload hx hb dL_law_894 (lv_at hl 1 rfl) ?_
  refine lv_iconst (v := (2 : Int32)) hx hb dL_law_896 (by decide) ?_
  refine lv_iadd hx hb dL_law_897 ?_
  obtain ⟨hg7, hk⟩ := gd_s hk
  refine va_sld hx hb hX hbl hbA hS hg7 dL_law_898 ?_
  obtain ⟨M9, v8, hf10, hk⟩ := b1_s hk
  refine wc_iV0 (rest := []) (As := [.int (xs ((ix + (1 : Int32))).toNatClampNeg), .int (xs ((ix + (2 : Int32))).toNatClampNeg)]) ⟨hx, hb, hml, hown, hts⟩ (fun sz => k_X7_letter l hfl Z hZ X M O4 (xs ((ix + (1 : Int32))).toNatClampNeg) (xs ((ix + (2 : Int32))).toNatClampNeg) M9 v8 hf10 sz) (cw_RL_236 (args := _) (s := s) hts (Nat.le_of_ble_eq_true rfl) (Nat.le_of_ble_eq_true rfl)) hE hP hK hS (rv_26 hK hP (by decide)) rfl hl.1 rfl (Nat.le_of_ble_eq_true rfl) dL_law_899 ⟨by show _ ≤ 603072; omega, by show _ ≤ 7223402; omega⟩ (fun H locs hP hS => ?_)
  refine lv_istore (lv' := [(7, .int v8), (6, .int v3), (5, .int ix), (4, .ref (Z.2.2 57 0)), (3, .ref (Z.2.2 56 0)), (2, .ref (Z.2.2 26 0)), (1, .ref (Z.2.2 0 0)), (0, .ref b)]) hx hb dL_law_902 hl (by decide) rfl (fun ls hl => ?_)
  refine lv_goto (tgt := 1621) hx hb dL_law_904 (by decide) ?_
  refine lv_iinc (v := (ix + (4 : Int32))) (lv' := [(5, .int (ix + (4 : Int32))), (7, .int v8), (6, .int v3), (4, .ref (Z.2.2 57 0)), (3, .ref (Z.2.2 56 0)), (2, .ref (Z.2.2 26 0)), (1, .ref (Z.2.2 0 0)), (0, .ref b)]) hx hb dL_law_1621 hl (k := 2) rfl rfl (by decide) rfl (fun ls hl => ?_)
  refine lv_goto (tgt := 28) hx hb dL_law_1624 (by decide) ?_
  refine W.widen (k := cells + 3) (n := slots + 18) (by omega) (by omega) ?_
  exact hrc _ _ _ _ _ _ _ hk hP hS (lv_sub hl [0, 3, 4, 5, 6, 7] rfl)
set_option maxHeartbeats 4000000 in
set_option maxRecDepth 100000 in
theorem law_C22 (hfl : l.stackTraces = false) (hZ : wD Z) (hx : p.tables.exec = Jvm.exec) (hb : c.code = code) (hml : c.maxLocals = 9) (hown : s.vm.findClass RL = some m.cls) (hts : ∀ w ∈ lw_all, w.before #[Value.ref b] s = true) (hE : EV (wA Z s.heap.size) s) (hK : wK Z s) (hX : va_X b L xs s s.heap) (hbl : b < s.heap.size) (hbA : ¬ wA Z s.heap.size b) {rc : Int32 → SS → SS → SS → Option Unit} {cells slots : Nat} (hcc : cells + 3 ≤ 603072) (hss : slots + 18 ≤ 7223402) (hrc : ∀ (ix : Int32) (X M O : SS) (H : Heap) (locs : List Loc) (ls : Array Slot), rc ix X M O = some () → wP Z (X, M, O) H → va_S (wA Z s.heap.size) s.heap H locs → lv_has ls 9 [(5, .int ix), (4, .ref (Z.2.2 57 0)), (3, .ref (Z.2.2 56 0)), (2, .ref (Z.2.2 26 0)), (1, .ref (Z.2.2 0 0)), (0, .ref b)] → W p l e room_1 s m #[Value.ref b] below meth c H locs (cells + 3) (slots + 18) Q (F0 m 28 ls [])) (ix : Int32) (X M O : SS) (H : Heap) (locs : List Loc) (ls : Array Slot) (hk : f_law_C22 xs L ix X M O rc = some ()) (hP : wP Z (X, M, O) H) (hS : va_S (wA Z s.heap.size) s.heap H locs) (hl : lv_has ls 9 [(5, .int ix), (4, .ref (Z.2.2 57 0)), (3, .ref (Z.2.2 56 0)), (2, .ref (Z.2.2 26 0)), (1, .ref (Z.2.2 0 0)), (0, .ref b)]) : W p l e room_1 s m #[Value.ref b] below meth c H locs cells slots Q (F0 m 907 ls []) := by
  unfold f_law_C22 at hk
  refine lv_aload_n hx hb dL_law_907 rfl (lv_at hl 4 rfl) ?_
  refine lv_aload_n hx hb dL_law_908 rfl (lv_at hl 5 rfl) ?_
  refine lv_iload hx hb dL_law_909 (lv_at hl 0 rfl) ?_
  refine lv_iconst (v := (1 : Int32)) hx hb dL_law_911 (by decide) ?_
  refine lv_iadd hx hb dL_law_912 ?_
  obtain ⟨hg1, hk⟩ := gd_s hk
  refine va_sld hx hb hX hbl hbA hS hg1 dL_law_913 ?_
  refine lv_aload_n hx hb dL_law_914 rfl (lv_at hl 2 rfl) ?_
  obtain ⟨X3, O4, v2, hf5, hk⟩ := b2_s hk
  refine wc_iSX0 (rest := []) (As := [.ref (Z.2.2 0 0), .int (xs ((ix + (1 : Int32))).toNatClampNeg), .ref (Z.2.2 56 0)]) ⟨hx, hb, hml, hown, hts⟩ (fun sz => k_L_drop l hfl Z hZ X M O (xs ((ix + (1 : Int32))).toNatClampNeg) X3 O4 v2 hf5 sz) (cw_RL_237 (args := _) (s := s) hts (Nat.le_of_ble_eq_true rfl) (Nat.le_of_ble_eq_true rfl)) hE hP hK hS  rfl hl.1 rfl (Nat.le_of_ble_eq_true rfl) dL_law_915 ⟨by show _ ≤ 603072; omega, by show _ ≤ 7223402; omega⟩ (fun H locs hP hS => ?_)
  refine lv_istore (lv' := [(6, .int v2), (5, .int ix), (4, .ref (Z.2.2 57 0)), (3, .ref (Z.2.2 56 0)), (2, .ref (Z.2.2 26 0)), (1, .ref (Z.2.2 0 0)), (0, .ref b)]) hx hb dL_law_918 hl (by decide) rfl (fun ls hl => ?_)
  refine lv_aload_n hx hb dL_law_920 rfl (lv_at hl 4 rfl) ?_
  refine lv_aload_n hx hb dL_law_921 rfl (lv_at hl 6 rfl) ?_
  refine lv_iload hx hb dL_law_922 (lv_at hl 1 rfl) ?_
  refine lv_iconst (v := (1 : Int32)) hx hb dL_law_924 (by decide) ?_
  refine lv_iadd hx hb dL_law_925 ?_
  obtain ⟨hg6, hk⟩ := gd_s hk
  refine va_sld hx hb hX hbl hbA hS hg6 dL_law_926 ?_
  obtain ⟨M8, v7, hf9, hk⟩ := b1_s hk
  refine wc_iV0 (rest := []) (As := [.int (xs ((ix + (1 : Int32))).toNatClampNeg)]) ⟨hx, hb, hml, hown, hts⟩ (fun sz => k_X7_drop l hfl Z hZ X3 M O4 (xs ((ix + (1 : Int32))).toNatClampNeg) M8 v7 hf9 sz) (cw_RL_239 (args := _) (s := s) hts (Nat.le_of_ble_eq_true rfl) (Nat.le_of_ble_eq_true rfl)) hE hP hK hS (rv_26 hK hP (by decide)) rfl hl.1 rfl (Nat.le_of_ble_eq_true rfl) dL_law_927 ⟨by show _ ≤ 603072; omega, by show _ ≤ 7223402; omega⟩ (fun H locs hP hS => ?_)
  refine lv_istore (lv' := [(7, .int v7), (6, .int v2), (5, .int ix), (4, .ref (Z.2.2 57 0)), (3, .ref (Z.2.2 56 0)), (2, .ref (Z.2.2 26 0)), (1, .ref (Z.2.2 0 0)), (0, .ref b)]) hx hb dL_law_930 hl (by decide) rfl (fun ls hl => ?_)
  refine lv_goto (tgt := 1621) hx hb dL_law_932 (by decide) ?_
  refine lv_iinc (v := (ix + (4 : Int32))) (lv' := [(5, .int (ix + (4 : Int32))), (7, .int v7), (6, .int v2), (4, .ref (Z.2.2 57 0)), (3, .ref (Z.2.2 56 0)), (2, .ref (Z.2.2 26 0)), (1, .ref (Z.2.2 0 0)), (0, .ref b)]) hx hb dL_law_1621 hl (k := 2) rfl rfl (by decide) rfl (fun ls hl => ?_)
  refine lv_goto (tgt := 28) hx hb dL_law_1624 (by decide) ?_
  refine W.widen (k := cells + 3) (n := slots + 18) (by omega) (by omega) ?_
  exact hrc _ _ _ _ _ _ _ hk hP hS (lv_sub hl [0, 3, 4, 5, 6, 7] rfl)
set_option maxHeartbeats 4000000 in
set_option maxRecDepth 100000 in
theorem law_C23 (hfl : l.stackTraces = false) (hZ : wD Z) (hx : p.tables.exec = Jvm.exec) (hb : c.code = code) (hml : c.maxLocals = 9) (hown : s.vm.findClass RL = some m.cls) (hts : ∀ w ∈ lw_all, w.before #[Value.ref b] s = true) (hE : EV (wA Z s.heap.size) s) (hK : wK Z s) (hX : va_X b L xs s s.heap) (hbl : b < s.heap.size) (hbA : ¬ wA Z s.heap.size b) {rc : Int32 → SS → SS → SS → Option Unit} {cells slots : Nat} (hcc : cells + 3 ≤ 603072) (hss : slots + 18 ≤ 7223402) (hrc : ∀ (ix : Int32) (X M O : SS) (H : Heap) (locs : List Loc) (ls : Array Slot), rc ix X M O = some () → wP Z (X, M, O) H → va_S (wA Z s.heap.size) s.heap H locs → lv_has ls 9 [(5, .int ix), (4, .ref (Z.2.2 57 0)), (3, .ref (Z.2.2 56 0)), (2, .ref (Z.2.2 26 0)), (1, .ref (Z.2.2 0 0)), (0, .ref b)] → W p l e room_1 s m #[Value.ref b] below meth c H locs (cells + 3) (slots + 18) Q (F0 m 28 ls [])) (ix : Int32) (X M O : SS) (H : Heap) (locs : List Loc) (ls : Array Slot) (hk : f_law_C23 xs L ix X M O rc = some ()) (hP : wP Z (X, M, O) H) (hS : va_S (wA Z s.heap.size) s.heap H locs) (hl : lv_has ls 9 [(5, .int ix), (4, .ref (Z.2.2 57 0)), (3, .ref (Z.2.2 56 0)), (2, .ref (Z.2.2 26 0)), (1, .ref (Z.2.2 0 0)), (0, .ref b)]) : W p l e room_1 s m #[Value.ref b] below meth c H locs cells slots Q (F0 m 935 ls []) := by
  unfold f_law_C23 at hk
  refine lv_aload_n hx hb dL_law_935 rfl (lv_at hl 4 rfl) ?_
  refine lv_aload_n hx hb dL_law_936 rfl (lv_at hl 5 rfl) ?_
  refine lv_iload hx hb dL_law_937 (lv_at hl 0 rfl) ?_
  refine lv_iconst (v := (1 : Int32)) hx hb dL_law_939 (by decide) ?_
  refine lv_iadd hx hb dL_law_940 ?_
  obtain ⟨hg1, hk⟩ := gd_s hk
  refine va_sld hx hb hX hbl hbA hS hg1 dL_law_941 ?_
  refine lv_aload_n hx hb dL_law_942 rfl (lv_at hl 2 rfl) ?_
  obtain ⟨X3, O4, v2, hf5, hk⟩ := b2_s hk
  refine wc_iSX0 (rest := []) (As := [.ref (Z.2.2 0 0), .int (xs ((ix + (1 : Int32))).toNatClampNeg), .ref (Z.2.2 56 0)]) ⟨hx, hb, hml, hown, hts⟩ (fun sz => k_L_capacity l hfl Z hZ X M O (xs ((ix + (1 : Int32))).toNatClampNeg) X3 O4 v2 hf5 sz) (cw_RL_240 (args := _) (s := s) hts (Nat.le_of_ble_eq_true rfl) (Nat.le_of_ble_eq_true rfl)) hE hP hK hS  rfl hl.1 rfl (Nat.le_of_ble_eq_true rfl) dL_law_943 ⟨by show _ ≤ 603072; omega, by show _ ≤ 7223402; omega⟩ (fun H locs hP hS => ?_)
  refine lv_istore (lv' := [(6, .int v2), (5, .int ix), (4, .ref (Z.2.2 57 0)), (3, .ref (Z.2.2 56 0)), (2, .ref (Z.2.2 26 0)), (1, .ref (Z.2.2 0 0)), (0, .ref b)]) hx hb dL_law_946 hl (by decide) rfl (fun ls hl => ?_)
  refine lv_aload_n hx hb dL_law_948 rfl (lv_at hl 4 rfl) ?_
  refine lv_aload_n hx hb dL_law_949 rfl (lv_at hl 6 rfl) ?_
  refine lv_iload hx hb dL_law_950 (lv_at hl 1 rfl) ?_
  refine lv_iconst (v := (1 : Int32)) hx hb dL_law_952 (by decide) ?_
  refine lv_iadd hx hb dL_law_953 ?_
  obtain ⟨hg6, hk⟩ := gd_s hk
  refine va_sld hx hb hX hbl hbA hS hg6 dL_law_954 ?_
  obtain ⟨M8, v7, hf9, hk⟩ := b1_s hk
  refine wc_iV0 (rest := []) (As := [.int (xs ((ix + (1 : Int32))).toNatClampNeg)]) ⟨hx, hb, hml, hown, hts⟩ (fun sz => k_X7_capacity l hfl Z hZ X3 M O4 (xs ((ix + (1 : Int32))).toNatClampNeg) M8 v7 hf9 sz) (cw_RL_242 (args := _) (s := s) hts (Nat.le_of_ble_eq_true rfl) (Nat.le_of_ble_eq_true rfl)) hE hP hK hS (rv_26 hK hP (by decide)) rfl hl.1 rfl (Nat.le_of_ble_eq_true rfl) dL_law_955 ⟨by show _ ≤ 603072; omega, by show _ ≤ 7223402; omega⟩ (fun H locs hP hS => ?_)
  refine lv_istore (lv' := [(7, .int v7), (6, .int v2), (5, .int ix), (4, .ref (Z.2.2 57 0)), (3, .ref (Z.2.2 56 0)), (2, .ref (Z.2.2 26 0)), (1, .ref (Z.2.2 0 0)), (0, .ref b)]) hx hb dL_law_958 hl (by decide) rfl (fun ls hl => ?_)
  refine lv_goto (tgt := 1621) hx hb dL_law_960 (by decide) ?_
  refine lv_iinc (v := (ix + (4 : Int32))) (lv' := [(5, .int (ix + (4 : Int32))), (7, .int v7), (6, .int v2), (4, .ref (Z.2.2 57 0)), (3, .ref (Z.2.2 56 0)), (2, .ref (Z.2.2 26 0)), (1, .ref (Z.2.2 0 0)), (0, .ref b)]) hx hb dL_law_1621 hl (k := 2) rfl rfl (by decide) rfl (fun ls hl => ?_)
  refine lv_goto (tgt := 28) hx hb dL_law_1624 (by decide) ?_
  refine W.widen (k := cells + 3) (n := slots + 18) (by omega) (by omega) ?_
  exact hrc _ _ _ _ _ _ _ hk hP hS (lv_sub hl [0, 3, 4, 5, 6, 7] rfl)
set_option maxHeartbeats 4000000 in
set_option maxRecDepth 100000 in
theorem law_C24 (hfl : l.stackTraces = false) (hZ : wD Z) (hx : p.tables.exec = Jvm.exec) (hb : c.code = code) (hml : c.maxLocals = 9) (hown : s.vm.findClass RL = some m.cls) (hts : ∀ w ∈ lw_all, w.before #[Value.ref b] s = true) (hE : EV (wA Z s.heap.size) s) (hK : wK Z s) (hX : va_X b L xs s s.heap) (hbl : b < s.heap.size) (hbA : ¬ wA Z s.heap.size b) {rc : Int32 → SS → SS → SS → Option Unit} {cells slots : Nat} (hcc : cells + 3 ≤ 603072) (hss : slots + 18 ≤ 7223402) (hrc : ∀ (ix : Int32) (X M O : SS) (H : Heap) (locs : List Loc) (ls : Array Slot), rc ix X M O = some () → wP Z (X, M, O) H → va_S (wA Z s.heap.size) s.heap H locs → lv_has ls 9 [(5, .int ix), (4, .ref (Z.2.2 57 0)), (3, .ref (Z.2.2 56 0)), (2, .ref (Z.2.2 26 0)), (1, .ref (Z.2.2 0 0)), (0, .ref b)] → W p l e room_1 s m #[Value.ref b] below meth c H locs (cells + 3) (slots + 18) Q (F0 m 28 ls [])) (ix : Int32) (X M O : SS) (H : Heap) (locs : List Loc) (ls : Array Slot) (hk : f_law_C24 xs L ix X M O rc = some ()) (hP : wP Z (X, M, O) H) (hS : va_S (wA Z s.heap.size) s.heap H locs) (hl : lv_has ls 9 [(5, .int ix), (4, .ref (Z.2.2 57 0)), (3, .ref (Z.2.2 56 0)), (2, .ref (Z.2.2 26 0)), (1, .ref (Z.2.2 0 0)), (0, .ref b)]) : W p l e room_1 s m #[Value.ref b] below meth c H locs cells slots Q (F0 m 963 ls []) := by
  unfold f_law_C24 at hk
  refine lv_aload_n hx hb dL_law_963 rfl (lv_at hl 4 rfl) ?_
  obtain ⟨v1, hf2, hk⟩ := b0_s hk
  refine wc_iV0 (rest := []) (As := []) ⟨hx, hb, hml, hown, hts⟩ (fun sz => k_X6_bodies l hfl Z hZ X M O v1 hf2 sz) (cw_RL_243 (args := _) (s := s) hts (Nat.le_of_ble_eq_true rfl) (Nat.le_of_ble_eq_true rfl)) hE hP hK hS (rv_0 hK hP (by decide)) rfl hl.1 rfl (Nat.le_of_ble_eq_true rfl) dL_law_964 ⟨by show _ ≤ 603072; omega, by show _ ≤ 7223402; omega⟩ (fun H locs hP hS => ?_)
  refine lv_pop hx hb dL_law_967 rfl ?_
  refine lv_aload_n hx hb dL_law_968 rfl (lv_at hl 3 rfl) ?_
  obtain ⟨M4, v3, hf5, hk⟩ := b1_s hk
  refine wc_iV0 (rest := []) (As := []) ⟨hx, hb, hml, hown, hts⟩ (fun sz => k_X7_bodies l hfl Z hZ X M O M4 v3 hf5 sz) (cw_RL_246 (args := _) (s := s) hts (Nat.le_of_ble_eq_true rfl) (Nat.le_of_ble_eq_true rfl)) hE hP hK hS (rv_26 hK hP (by decide)) rfl hl.1 rfl (Nat.le_of_ble_eq_true rfl) dL_law_969 ⟨by show _ ≤ 603072; omega, by show _ ≤ 7223402; omega⟩ (fun H locs hP hS => ?_)
  refine lv_pop hx hb dL_law_972 rfl ?_
  refine lv_goto (tgt := 1621) hx hb dL_law_973 (by decide) ?_
  refine lv_iinc (v := (ix + (4 : Int32))) (lv' := [(5, .int (ix + (4 : Int32))), (4, .ref (Z.2.2 57 0)), (3, .ref (Z.2.2 56 0)), (2, .ref (Z.2.2 26 0)), (1, .ref (Z.2.2 0 0)), (0, .ref b)]) hx hb dL_law_1621 hl (k := 0) rfl rfl (by decide) rfl (fun ls hl => ?_)
  refine lv_goto (tgt := 28) hx hb dL_law_1624 (by decide) ?_
  refine W.widen (k := cells + 3) (n := slots + 18) (by omega) (by omega) ?_
  exact hrc _ _ _ _ _ _ _ hk hP hS (lv_sub hl [0, 1, 2, 3, 4, 5] rfl)
set_option maxHeartbeats 4000000 in
set_option maxRecDepth 100000 in
theorem law_C25 (hfl : l.stackTraces = false) (hZ : wD Z) (hx : p.tables.exec = Jvm.exec) (hb : c.code = code) (hml : c.maxLocals = 9) (hown : s.vm.findClass RL = some m.cls) (hts : ∀ w ∈ lw_all, w.before #[Value.ref b] s = true) (hE : EV (wA Z s.heap.size) s) (hK : wK Z s) (hX : va_X b L xs s s.heap) (hbl : b < s.heap.size) (hbA : ¬ wA Z s.heap.size b) {rc : Int32 → SS → SS → SS → Option Unit} {cells slots : Nat} (hcc : cells + 3 ≤ 603072) (hss : slots + 18 ≤ 7223402) (hrc : ∀ (ix : Int32) (X M O : SS) (H : Heap) (locs : List Loc) (ls : Array Slot), rc ix X M O = some () → wP Z (X, M, O) H → va_S (wA Z s.heap.size) s.heap H locs → lv_has ls 9 [(5, .int ix), (4, .ref (Z.2.2 57 0)), (3, .ref (Z.2.2 56 0)), (2, .ref (Z.2.2 26 0)), (1, .ref (Z.2.2 0 0)), (0, .ref b)] → W p l e room_1 s m #[Value.ref b] below meth c H locs (cells + 3) (slots + 18) Q (F0 m 28 ls [])) (ix : Int32) (X M O : SS) (H : Heap) (locs : List Loc) (ls : Array Slot) (hk : f_law_C25 xs L ix X M O rc = some ()) (hP : wP Z (X, M, O) H) (hS : va_S (wA Z s.heap.size) s.heap H locs) (hl : lv_has ls 9 [(5, .int ix), (4, .ref (Z.2.2 57 0)), (3, .ref (Z.2.2 56 0)), (2, .ref (Z.2.2 26 0)), (1, .ref (Z.2.2 0 0)), (0, .ref b)]) : W p l e room_1 s m #[Value.ref b] below meth c H locs cells slots Q (F0 m 976 ls []) := by
  unfold f_law_C25 at hk
  refine lv_aload_n hx hb dL_law_976 rfl (lv_at hl 4 rfl) ?_
  refine lv_aload_n hx hb dL_law_977 rfl (lv_at hl 5 rfl) ?_
  refine lv_iload hx hb dL_law_978 (lv_at hl 0 rfl) ?_
  refine lv_iconst (v := (1 : Int32)) hx hb dL_law_980 (by decide) ?_
  refine lv_iadd hx hb dL_law_981 ?_
  obtain ⟨hg1, hk⟩ := gd_s hk
  refine va_sld hx hb hX hbl hbA hS hg1 dL_law_982 ?_
  refine lv_aload_n hx hb dL_law_983 rfl (lv_at hl 5 rfl) ?_
  refine lv_iload hx hb dL_law_984 (lv_at hl 0 rfl) ?_
  refine lv_iconst (v := (2 : Int32)) hx hb dL_law_986 (by decide) ?_
  refine lv_iadd hx hb dL_law_987 ?_
  obtain ⟨hg2, hk⟩ := gd_s hk
  refine va_sld hx hb hX hbl hbA hS hg2 dL_law_988 ?_
  refine lv_aload_n hx hb dL_law_989 rfl (lv_at hl 2 rfl) ?_
  obtain ⟨X4, O5, v3, hf6, hk⟩ := b2_s hk
  refine wc_iSX0 (rest := []) (As := [.ref (Z.2.2 0 0), .int (xs ((ix + (1 : Int32))).toNatClampNeg), .int (xs ((ix + (2 : Int32))).toNatClampNeg), .ref (Z.2.2 56 0)]) ⟨hx, hb, hml, hown, hts⟩ (fun sz => k_L_read l hfl Z hZ X M O (xs ((ix + (1 : Int32))).toNatClampNeg) (xs ((ix + (2 : Int32))).toNatClampNeg) X4 O5 v3 hf6 sz) (cw_RL_247 (args := _) (s := s) hts (Nat.le_of_ble_eq_true rfl) (Nat.le_of_ble_eq_true rfl)) hE hP hK hS  rfl hl.1 rfl (Nat.le_of_ble_eq_true rfl) dL_law_990 ⟨by show _ ≤ 603072; omega, by show _ ≤ 7223402; omega⟩ (fun H locs hP hS => ?_)
  refine lv_istore (lv' := [(6, .int v3), (5, .int ix), (4, .ref (Z.2.2 57 0)), (3, .ref (Z.2.2 56 0)), (2, .ref (Z.2.2 26 0)), (1, .ref (Z.2.2 0 0)), (0, .ref b)]) hx hb dL_law_993 hl (by decide) rfl (fun ls hl => ?_)
  refine lv_aload_n hx hb dL_law_995 rfl (lv_at hl 4 rfl) ?_
  refine lv_aload_n hx hb dL_law_996 rfl (lv_at hl 6 rfl) ?_
  refine lv_iload hx hb dL_law_997 (lv_at hl 1 rfl) ?_
  refine lv_iconst (v := (1 : Int32)) hx hb dL_law_999 (by decide) ?_
  refine lv_iadd hx hb dL_law_1000 ?_
  obtain ⟨hg7, hk⟩ := gd_s hk
  refine va_sld hx hb hX hbl hbA hS hg7 dL_law_1001 ?_
  refine lv_aload_n hx hb dL_law_1002 rfl (lv_at hl 6 rfl) ?_
  refine lv_iload hx hb dL_law_1003 (lv_at hl 1 rfl) ?_
  refine lv_iconst (v := (2 : Int32)) hx hb dL_law_1005 (by decide) ?_
  refine lv_iadd hx hb dL_law_1006 ?_
  obtain ⟨hg8, hk⟩ := gd_s hk
  refine va_sld hx hb hX hbl hbA hS hg8 dL_law_1007 ?_
  obtain ⟨M10, v9, hf11, hk⟩ := b1_s hk
  refine wc_iV0 (rest := []) (As := [.int (xs ((ix + (1 : Int32))).toNatClampNeg), .int (xs ((ix + (2 : Int32))).toNatClampNeg)]) ⟨hx, hb, hml, hown, hts⟩ (fun sz => k_X7_read l hfl Z hZ X4 M O5 (xs ((ix + (1 : Int32))).toNatClampNeg) (xs ((ix + (2 : Int32))).toNatClampNeg) M10 v9 hf11 sz) (cw_RL_249 (args := _) (s := s) hts (Nat.le_of_ble_eq_true rfl) (Nat.le_of_ble_eq_true rfl)) hE hP hK hS (rv_26 hK hP (by decide)) rfl hl.1 rfl (Nat.le_of_ble_eq_true rfl) dL_law_1008 ⟨by show _ ≤ 603072; omega, by show _ ≤ 7223402; omega⟩ (fun H locs hP hS => ?_)
  refine lv_istore (lv' := [(7, .int v9), (6, .int v3), (5, .int ix), (4, .ref (Z.2.2 57 0)), (3, .ref (Z.2.2 56 0)), (2, .ref (Z.2.2 26 0)), (1, .ref (Z.2.2 0 0)), (0, .ref b)]) hx hb dL_law_1011 hl (by decide) rfl (fun ls hl => ?_)
  refine lv_goto (tgt := 1621) hx hb dL_law_1013 (by decide) ?_
  refine lv_iinc (v := (ix + (4 : Int32))) (lv' := [(5, .int (ix + (4 : Int32))), (7, .int v9), (6, .int v3), (4, .ref (Z.2.2 57 0)), (3, .ref (Z.2.2 56 0)), (2, .ref (Z.2.2 26 0)), (1, .ref (Z.2.2 0 0)), (0, .ref b)]) hx hb dL_law_1621 hl (k := 2) rfl rfl (by decide) rfl (fun ls hl => ?_)
  refine lv_goto (tgt := 28) hx hb dL_law_1624 (by decide) ?_
  refine W.widen (k := cells + 3) (n := slots + 18) (by omega) (by omega) ?_
  exact hrc _ _ _ _ _ _ _ hk hP hS (lv_sub hl [0, 3, 4, 5, 6, 7] rfl)
set_option maxHeartbeats 4000000 in
set_option maxRecDepth 100000 in
theorem law_C26 (hfl : l.stackTraces = false) (hZ : wD Z) (hx : p.tables.exec = Jvm.exec) (hb : c.code = code) (hml : c.maxLocals = 9) (hown : s.vm.findClass RL = some m.cls) (hts : ∀ w ∈ lw_all, w.before #[Value.ref b] s = true) (hE : EV (wA Z s.heap.size) s) (hK : wK Z s) (hX : va_X b L xs s s.heap) (hbl : b < s.heap.size) (hbA : ¬ wA Z s.heap.size b) {rc : Int32 → SS → SS → SS → Option Unit} {cells slots : Nat} (hcc : cells + 3 ≤ 603072) (hss : slots + 18 ≤ 7223402) (hrc : ∀ (ix : Int32) (X M O : SS) (H : Heap) (locs : List Loc) (ls : Array Slot), rc ix X M O = some () → wP Z (X, M, O) H → va_S (wA Z s.heap.size) s.heap H locs → lv_has ls 9 [(5, .int ix), (4, .ref (Z.2.2 57 0)), (3, .ref (Z.2.2 56 0)), (2, .ref (Z.2.2 26 0)), (1, .ref (Z.2.2 0 0)), (0, .ref b)] → W p l e room_1 s m #[Value.ref b] below meth c H locs (cells + 3) (slots + 18) Q (F0 m 28 ls [])) (ix : Int32) (X M O : SS) (H : Heap) (locs : List Loc) (ls : Array Slot) (hk : f_law_C26 xs L ix X M O rc = some ()) (hP : wP Z (X, M, O) H) (hS : va_S (wA Z s.heap.size) s.heap H locs) (hl : lv_has ls 9 [(5, .int ix), (4, .ref (Z.2.2 57 0)), (3, .ref (Z.2.2 56 0)), (2, .ref (Z.2.2 26 0)), (1, .ref (Z.2.2 0 0)), (0, .ref b)]) : W p l e room_1 s m #[Value.ref b] below meth c H locs cells slots Q (F0 m 1016 ls []) := by
  unfold f_law_C26 at hk
  refine lv_aload_n hx hb dL_law_1016 rfl (lv_at hl 4 rfl) ?_
  refine lv_aload_n hx hb dL_law_1017 rfl (lv_at hl 5 rfl) ?_
  refine lv_iload hx hb dL_law_1018 (lv_at hl 0 rfl) ?_
  refine lv_iconst (v := (1 : Int32)) hx hb dL_law_1020 (by decide) ?_
  refine lv_iadd hx hb dL_law_1021 ?_
  obtain ⟨hg1, hk⟩ := gd_s hk
  refine va_sld hx hb hX hbl hbA hS hg1 dL_law_1022 ?_
  refine lv_aload_n hx hb dL_law_1023 rfl (lv_at hl 5 rfl) ?_
  refine lv_iload hx hb dL_law_1024 (lv_at hl 0 rfl) ?_
  refine lv_iconst (v := (2 : Int32)) hx hb dL_law_1026 (by decide) ?_
  refine lv_iadd hx hb dL_law_1027 ?_
  obtain ⟨hg2, hk⟩ := gd_s hk
  refine va_sld hx hb hX hbl hbA hS hg2 dL_law_1028 ?_
  refine lv_aload_n hx hb dL_law_1029 rfl (lv_at hl 2 rfl) ?_
  obtain ⟨O4, v3, hf5, hk⟩ := b1_s hk
  refine wc_iSX0 (rest := []) (As := [.ref (Z.2.2 0 0), .int (xs ((ix + (1 : Int32))).toNatClampNeg), .int (xs ((ix + (2 : Int32))).toNatClampNeg), .ref (Z.2.2 56 0)]) ⟨hx, hb, hml, hown, hts⟩ (fun sz => k_L_copy l hfl Z hZ X M O (xs ((ix + (1 : Int32))).toNatClampNeg) (xs ((ix + (2 : Int32))).toNatClampNeg) O4 v3 hf5 sz) (cw_RL_250 (args := _) (s := s) hts (Nat.le_of_ble_eq_true rfl) (Nat.le_of_ble_eq_true rfl)) hE hP hK hS  rfl hl.1 rfl (Nat.le_of_ble_eq_true rfl) dL_law_1030 ⟨by show _ ≤ 603072; omega, by show _ ≤ 7223402; omega⟩ (fun H locs hP hS => ?_)
  refine lv_istore (lv' := [(6, .int v3), (5, .int ix), (4, .ref (Z.2.2 57 0)), (3, .ref (Z.2.2 56 0)), (2, .ref (Z.2.2 26 0)), (1, .ref (Z.2.2 0 0)), (0, .ref b)]) hx hb dL_law_1033 hl (by decide) rfl (fun ls hl => ?_)
  refine lv_aload_n hx hb dL_law_1035 rfl (lv_at hl 4 rfl) ?_
  refine lv_aload_n hx hb dL_law_1036 rfl (lv_at hl 6 rfl) ?_
  refine lv_iload hx hb dL_law_1037 (lv_at hl 1 rfl) ?_
  refine lv_iconst (v := (1 : Int32)) hx hb dL_law_1039 (by decide) ?_
  refine lv_iadd hx hb dL_law_1040 ?_
  obtain ⟨hg6, hk⟩ := gd_s hk
  refine va_sld hx hb hX hbl hbA hS hg6 dL_law_1041 ?_
  refine lv_aload_n hx hb dL_law_1042 rfl (lv_at hl 6 rfl) ?_
  refine lv_iload hx hb dL_law_1043 (lv_at hl 1 rfl) ?_
  refine lv_iconst (v := (2 : Int32)) hx hb dL_law_1045 (by decide) ?_
  refine lv_iadd hx hb dL_law_1046 ?_
  obtain ⟨hg7, hk⟩ := gd_s hk
  refine va_sld hx hb hX hbl hbA hS hg7 dL_law_1047 ?_
  obtain ⟨M9, v8, hf10, hk⟩ := b1_s hk
  refine wc_iV0 (rest := []) (As := [.int (xs ((ix + (1 : Int32))).toNatClampNeg), .int (xs ((ix + (2 : Int32))).toNatClampNeg)]) ⟨hx, hb, hml, hown, hts⟩ (fun sz => k_X7_copy l hfl Z hZ X M O4 (xs ((ix + (1 : Int32))).toNatClampNeg) (xs ((ix + (2 : Int32))).toNatClampNeg) M9 v8 hf10 sz) (cw_RL_252 (args := _) (s := s) hts (Nat.le_of_ble_eq_true rfl) (Nat.le_of_ble_eq_true rfl)) hE hP hK hS (rv_26 hK hP (by decide)) rfl hl.1 rfl (Nat.le_of_ble_eq_true rfl) dL_law_1048 ⟨by show _ ≤ 603072; omega, by show _ ≤ 7223402; omega⟩ (fun H locs hP hS => ?_)
  refine lv_istore (lv' := [(7, .int v8), (6, .int v3), (5, .int ix), (4, .ref (Z.2.2 57 0)), (3, .ref (Z.2.2 56 0)), (2, .ref (Z.2.2 26 0)), (1, .ref (Z.2.2 0 0)), (0, .ref b)]) hx hb dL_law_1051 hl (by decide) rfl (fun ls hl => ?_)
  refine lv_goto (tgt := 1621) hx hb dL_law_1053 (by decide) ?_
  refine lv_iinc (v := (ix + (4 : Int32))) (lv' := [(5, .int (ix + (4 : Int32))), (7, .int v8), (6, .int v3), (4, .ref (Z.2.2 57 0)), (3, .ref (Z.2.2 56 0)), (2, .ref (Z.2.2 26 0)), (1, .ref (Z.2.2 0 0)), (0, .ref b)]) hx hb dL_law_1621 hl (k := 2) rfl rfl (by decide) rfl (fun ls hl => ?_)
  refine lv_goto (tgt := 28) hx hb dL_law_1624 (by decide) ?_
  refine W.widen (k := cells + 3) (n := slots + 18) (by omega) (by omega) ?_
  exact hrc _ _ _ _ _ _ _ hk hP hS (lv_sub hl [0, 3, 4, 5, 6, 7] rfl)
set_option maxHeartbeats 4000000 in
set_option maxRecDepth 100000 in
theorem law_C27 (hfl : l.stackTraces = false) (hZ : wD Z) (hx : p.tables.exec = Jvm.exec) (hb : c.code = code) (hml : c.maxLocals = 9) (hown : s.vm.findClass RL = some m.cls) (hts : ∀ w ∈ lw_all, w.before #[Value.ref b] s = true) (hE : EV (wA Z s.heap.size) s) (hK : wK Z s) (hX : va_X b L xs s s.heap) (hbl : b < s.heap.size) (hbA : ¬ wA Z s.heap.size b) {rc : Int32 → SS → SS → SS → Option Unit} {cells slots : Nat} (hcc : cells + 3 ≤ 603072) (hss : slots + 18 ≤ 7223402) (hrc : ∀ (ix : Int32) (X M O : SS) (H : Heap) (locs : List Loc) (ls : Array Slot), rc ix X M O = some () → wP Z (X, M, O) H → va_S (wA Z s.heap.size) s.heap H locs → lv_has ls 9 [(5, .int ix), (4, .ref (Z.2.2 57 0)), (3, .ref (Z.2.2 56 0)), (2, .ref (Z.2.2 26 0)), (1, .ref (Z.2.2 0 0)), (0, .ref b)] → W p l e room_1 s m #[Value.ref b] below meth c H locs (cells + 3) (slots + 18) Q (F0 m 28 ls [])) (ix : Int32) (X M O : SS) (H : Heap) (locs : List Loc) (ls : Array Slot) (hk : f_law_C27 xs L ix X M O rc = some ()) (hP : wP Z (X, M, O) H) (hS : va_S (wA Z s.heap.size) s.heap H locs) (hl : lv_has ls 9 [(5, .int ix), (4, .ref (Z.2.2 57 0)), (3, .ref (Z.2.2 56 0)), (2, .ref (Z.2.2 26 0)), (1, .ref (Z.2.2 0 0)), (0, .ref b)]) : W p l e room_1 s m #[Value.ref b] below meth c H locs cells slots Q (F0 m 1056 ls []) := by
  unfold f_law_C27 at hk
  refine lv_aload_n hx hb dL_law_1056 rfl (lv_at hl 4 rfl) ?_
  refine lv_aload_n hx hb dL_law_1057 rfl (lv_at hl 5 rfl) ?_
  refine lv_iload hx hb dL_law_1058 (lv_at hl 0 rfl) ?_
  refine lv_iconst (v := (1 : Int32)) hx hb dL_law_1060 (by decide) ?_
  refine lv_iadd hx hb dL_law_1061 ?_
  obtain ⟨hg1, hk⟩ := gd_s hk
  refine va_sld hx hb hX hbl hbA hS hg1 dL_law_1062 ?_
  refine lv_aload_n hx hb dL_law_1063 rfl (lv_at hl 5 rfl) ?_
  refine lv_iload hx hb dL_law_1064 (lv_at hl 0 rfl) ?_
  refine lv_iconst (v := (2 : Int32)) hx hb dL_law_1066 (by decide) ?_
  refine lv_iadd hx hb dL_law_1067 ?_
  obtain ⟨hg2, hk⟩ := gd_s hk
  refine va_sld hx hb hX hbl hbA hS hg2 dL_law_1068 ?_
  refine lv_aload_n hx hb dL_law_1069 rfl (lv_at hl 5 rfl) ?_
  refine lv_iload hx hb dL_law_1070 (lv_at hl 0 rfl) ?_
  refine lv_iconst (v := (3 : Int32)) hx hb dL_law_1072 (by decide) ?_
  refine lv_iadd hx hb dL_law_1073 ?_
  obtain ⟨hg3, hk⟩ := gd_s hk
  refine va_sld hx hb hX hbl hbA hS hg3 dL_law_1074 ?_
  refine lv_aload_n hx hb dL_law_1075 rfl (lv_at hl 2 rfl) ?_
  obtain ⟨X5, O6, v4, hf7, hk⟩ := b2_s hk
  refine wc_iSX0 (rest := []) (As := [.ref (Z.2.2 0 0), .int (xs ((ix + (1 : Int32))).toNatClampNeg), .int (xs ((ix + (2 : Int32))).toNatClampNeg), .int (xs ((ix + (3 : Int32))).toNatClampNeg), .ref (Z.2.2 56 0)]) ⟨hx, hb, hml, hown, hts⟩ (fun sz => k_L_vote l hfl Z hZ X M O (xs ((ix + (1 : Int32))).toNatClampNeg) (xs ((ix + (2 : Int32))).toNatClampNeg) (xs ((ix + (3 : Int32))).toNatClampNeg) X5 O6 v4 hf7 sz) (cw_RL_253 (args := _) (s := s) hts (Nat.le_of_ble_eq_true rfl) (Nat.le_of_ble_eq_true rfl)) hE hP hK hS  rfl hl.1 rfl (Nat.le_of_ble_eq_true rfl) dL_law_1076 ⟨by show _ ≤ 603072; omega, by show _ ≤ 7223402; omega⟩ (fun H locs hP hS => ?_)
  refine lv_istore (lv' := [(6, .int v4), (5, .int ix), (4, .ref (Z.2.2 57 0)), (3, .ref (Z.2.2 56 0)), (2, .ref (Z.2.2 26 0)), (1, .ref (Z.2.2 0 0)), (0, .ref b)]) hx hb dL_law_1079 hl (by decide) rfl (fun ls hl => ?_)
  refine lv_aload_n hx hb dL_law_1081 rfl (lv_at hl 4 rfl) ?_
  refine lv_aload_n hx hb dL_law_1082 rfl (lv_at hl 6 rfl) ?_
  refine lv_iload hx hb dL_law_1083 (lv_at hl 1 rfl) ?_
  refine lv_iconst (v := (1 : Int32)) hx hb dL_law_1085 (by decide) ?_
  refine lv_iadd hx hb dL_law_1086 ?_
  obtain ⟨hg8, hk⟩ := gd_s hk
  refine va_sld hx hb hX hbl hbA hS hg8 dL_law_1087 ?_
  refine lv_aload_n hx hb dL_law_1088 rfl (lv_at hl 6 rfl) ?_
  refine lv_iload hx hb dL_law_1089 (lv_at hl 1 rfl) ?_
  refine lv_iconst (v := (2 : Int32)) hx hb dL_law_1091 (by decide) ?_
  refine lv_iadd hx hb dL_law_1092 ?_
  obtain ⟨hg9, hk⟩ := gd_s hk
  refine va_sld hx hb hX hbl hbA hS hg9 dL_law_1093 ?_
  refine lv_aload_n hx hb dL_law_1094 rfl (lv_at hl 6 rfl) ?_
  refine lv_iload hx hb dL_law_1095 (lv_at hl 1 rfl) ?_
  refine lv_iconst (v := (3 : Int32)) hx hb dL_law_1097 (by decide) ?_
  refine lv_iadd hx hb dL_law_1098 ?_
  obtain ⟨hg10, hk⟩ := gd_s hk
  refine va_sld hx hb hX hbl hbA hS hg10 dL_law_1099 ?_
  obtain ⟨M12, v11, hf13, hk⟩ := b1_s hk
  refine wc_iV0 (rest := []) (As := [.int (xs ((ix + (1 : Int32))).toNatClampNeg), .int (xs ((ix + (2 : Int32))).toNatClampNeg), .int (xs ((ix + (3 : Int32))).toNatClampNeg)]) ⟨hx, hb, hml, hown, hts⟩ (fun sz => k_X7_vote l hfl Z hZ X5 M O6 (xs ((ix + (1 : Int32))).toNatClampNeg) (xs ((ix + (2 : Int32))).toNatClampNeg) (xs ((ix + (3 : Int32))).toNatClampNeg) M12 v11 hf13 sz) (cw_RL_256 (args := _) (s := s) hts (Nat.le_of_ble_eq_true rfl) (Nat.le_of_ble_eq_true rfl)) hE hP hK hS (rv_26 hK hP (by decide)) rfl hl.1 rfl (Nat.le_of_ble_eq_true rfl) dL_law_1100 ⟨by show _ ≤ 603072; omega, by show _ ≤ 7223402; omega⟩ (fun H locs hP hS => ?_)
  refine lv_istore (lv' := [(7, .int v11), (6, .int v4), (5, .int ix), (4, .ref (Z.2.2 57 0)), (3, .ref (Z.2.2 56 0)), (2, .ref (Z.2.2 26 0)), (1, .ref (Z.2.2 0 0)), (0, .ref b)]) hx hb dL_law_1103 hl (by decide) rfl (fun ls hl => ?_)
  refine lv_goto (tgt := 1621) hx hb dL_law_1105 (by decide) ?_
  refine lv_iinc (v := (ix + (4 : Int32))) (lv' := [(5, .int (ix + (4 : Int32))), (7, .int v11), (6, .int v4), (4, .ref (Z.2.2 57 0)), (3, .ref (Z.2.2 56 0)), (2, .ref (Z.2.2 26 0)), (1, .ref (Z.2.2 0 0)), (0, .ref b)]) hx hb dL_law_1621 hl (k := 2) rfl rfl (by decide) rfl (fun ls hl => ?_)
  refine lv_goto (tgt := 28) hx hb dL_law_1624 (by decide) ?_
  refine W.widen (k := cells + 3) (n := slots + 18) (by omega) (by omega) ?_
  exact hrc _ _ _ _ _ _ _ hk hP hS (lv_sub hl [0, 3, 4, 5, 6, 7] rfl)
set_option maxHeartbeats 4000000 in
set_option maxRecDepth 100000 in
theorem law_C28 (hfl : l.stackTraces = false) (hZ : wD Z) (hx : p.tables.exec = Jvm.exec) (hb : c.code = code) (hml : c.maxLocals = 9) (hown : s.vm.findClass RL = some m.cls) (hts : ∀ w ∈ lw_all, w.before #[Value.ref b] s = true) (hE : EV (wA Z s.heap.size) s) (hK : wK Z s) (hX : va_X b L xs s s.heap) (hbl : b < s.heap.size) (hbA : ¬ wA Z s.heap.size b) {rc : Int32 → SS → SS → SS → Option Unit} {cells slots : Nat} (hcc : cells + 3 ≤ 603072) (hss : slots + 18 ≤ 7223402) (hrc : ∀ (ix : Int32) (X M O : SS) (H : Heap) (locs : List Loc) (ls : Array Slot), rc ix X M O = some () → wP Z (X, M, O) H → va_S (wA Z s.heap.size) s.heap H locs → lv_has ls 9 [(5, .int ix), (4, .ref (Z.2.2 57 0)), (3, .ref (Z.2.2 56 0)), (2, .ref (Z.2.2 26 0)), (1, .ref (Z.2.2 0 0)), (0, .ref b)] → W p l e room_1 s m #[Value.ref b] below meth c H locs (cells + 3) (slots + 18) Q (F0 m 28 ls [])) (ix : Int32) (X M O : SS) (H : Heap) (locs : List Loc) (ls : Array Slot) (hk : f_law_C28 xs L ix X M O rc = some ()) (hP : wP Z (X, M, O) H) (hS : va_S (wA Z s.heap.size) s.heap H locs) (hl : lv_has ls 9 [(5, .int ix), (4, .ref (Z.2.2 57 0)), (3, .ref (Z.2.2 56 0)), (2, .ref (Z.2.2 26 0)), (1, .ref (Z.2.2 0 0)), (0, .ref b)]) : W p l e room_1 s m #[Value.ref b] below meth c H locs cells slots Q (F0 m 1108 ls []) := by
  unfold f_law_C28 at hk
  refine lv_aload_n hx hb dL_law_1108 rfl (lv_at hl 4 rfl) ?_
  refine lv_aload_n hx hb dL_law_1109 rfl (lv_at hl 5 rfl) ?_
  refine lv_iload hx hb dL_law_1110 (lv_at hl 0 rfl) ?_
  refine lv_iconst (v := (1 : Int32)) hx hb dL_law_1112 (by decide) ?_
  refine lv_iadd hx hb dL_law_1113 ?_
  obtain ⟨hg1, hk⟩ := gd_s hk
  refine va_sld hx hb hX hbl hbA hS hg1 dL_law_1114 ?_
  refine lv_aload_n hx hb dL_law_1115 rfl (lv_at hl 5 rfl) ?_
  refine lv_iload hx hb dL_law_1116 (lv_at hl 0 rfl) ?_
  refine lv_iconst (v := (2 : Int32)) hx hb dL_law_1118 (by decide) ?_
  refine lv_iadd hx hb dL_law_1119 ?_
  obtain ⟨hg2, hk⟩ := gd_s hk
  refine va_sld hx hb hX hbl hbA hS hg2 dL_law_1120 ?_
  refine lv_if_eq (tgt := 1128) hx hb dL_law_1121 (by decide) (fun cz3 => ?_) (fun cz3 => ?_)
  · have hk := it_t cz3 hk
    refine lv_iconst (v := (0 : Int32)) hx hb dL_law_1128 (by decide) ?_
    refine lv_aload_n hx hb dL_law_1129 rfl (lv_at hl 2 rfl) ?_
    obtain ⟨O5, v4, hf6, hk⟩ := b1_s hk
    refine wc_iSX0 (rest := []) (As := [.ref (Z.2.2 0 0), .int (xs ((ix + (1 : Int32))).toNatClampNeg), .int (0 : Int32), .ref (Z.2.2 56 0)]) ⟨hx, hb, hml, hown, hts⟩ (fun sz => k_L_style l hfl Z hZ X M O (xs ((ix + (1 : Int32))).toNatClampNeg) (0 : Int32) O5 v4 hf6 sz) (cw_RL_257 (args := _) (s := s) hts (Nat.le_of_ble_eq_true rfl) (Nat.le_of_ble_eq_true rfl)) hE hP hK hS  rfl hl.1 rfl (Nat.le_of_ble_eq_true rfl) dL_law_1130 ⟨by show _ ≤ 603072; omega, by show _ ≤ 7223402; omega⟩ (fun H locs hP hS => ?_)
    refine lv_istore (lv' := [(6, .int v4), (5, .int ix), (4, .ref (Z.2.2 57 0)), (3, .ref (Z.2.2 56 0)), (2, .ref (Z.2.2 26 0)), (1, .ref (Z.2.2 0 0)), (0, .ref b)]) hx hb dL_law_1133 hl (by decide) rfl (fun ls hl => ?_)
    refine lv_aload_n hx hb dL_law_1135 rfl (lv_at hl 4 rfl) ?_
    refine lv_aload_n hx hb dL_law_1136 rfl (lv_at hl 6 rfl) ?_
    refine lv_iload hx hb dL_law_1137 (lv_at hl 1 rfl) ?_
    refine lv_iconst (v := (1 : Int32)) hx hb dL_law_1139 (by decide) ?_
    refine lv_iadd hx hb dL_law_1140 ?_
    obtain ⟨hg7, hk⟩ := gd_s hk
    refine va_sld hx hb hX hbl hbA hS hg7 dL_law_1141 ?_
    refine lv_aload_n hx hb dL_law_1142 rfl (lv_at hl 6 rfl) ?_
    refine lv_iload hx hb dL_law_1143 (lv_at hl 1 rfl) ?_
    refine lv_iconst (v := (2 : Int32)) hx hb dL_law_1145 (by decide) ?_
    refine lv_iadd hx hb dL_law_1146 ?_
    obtain ⟨hg8, hk⟩ := gd_s hk
    refine va_sld hx hb hX hbl hbA hS hg8 dL_law_1147 ?_
    refine lv_if_eq (tgt := 1155) hx hb dL_law_1148 (by decide) (fun cz9 => ?_) (fun cz9 => ?_)
    · have hk := it_t cz9 hk
      refine lv_iconst (v := (0 : Int32)) hx hb dL_law_1155 (by decide) ?_
      obtain ⟨M11, v10, hf12, hk⟩ := b1_s hk
      refine wc_lV0 (rest := []) (As := [.int (xs ((ix + (1 : Int32))).toNatClampNeg), .int (0 : Int32)]) ⟨hx, hb, hml, hown, hts⟩ (fun sz => k_X7_style l hfl Z hZ X M O5 (xs ((ix + (1 : Int32))).toNatClampNeg) (0 : Int32) M11 v10 hf12 sz) (cw_RL_259 (args := _) (s := s) hts (Nat.le_of_ble_eq_true rfl) (Nat.le_of_ble_eq_true rfl)) hE hP hK hS (rv_26 hK hP (by decide)) rfl hl.1 rfl (Nat.le_of_ble_eq_true rfl) dL_law_1156 ⟨by show _ ≤ 603072; omega, by show _ ≤ 7223402; omega⟩ (fun H locs hP hS => ?_)
      refine lv_lstore (lv' := [(7, .long v10), (6, .int v4), (5, .int ix), (4, .ref (Z.2.2 57 0)), (3, .ref (Z.2.2 56 0)), (2, .ref (Z.2.2 26 0)), (1, .ref (Z.2.2 0 0)), (0, .ref b)]) hx hb dL_law_1159 hl (by decide) rfl (fun ls hl => ?_)
      refine lv_goto (tgt := 1621) hx hb dL_law_1161 (by decide) ?_
      refine lv_iinc (v := (ix + (4 : Int32))) (lv' := [(5, .int (ix + (4 : Int32))), (7, .long v10), (6, .int v4), (4, .ref (Z.2.2 57 0)), (3, .ref (Z.2.2 56 0)), (2, .ref (Z.2.2 26 0)), (1, .ref (Z.2.2 0 0)), (0, .ref b)]) hx hb dL_law_1621 hl (k := 2) rfl rfl (by decide) rfl (fun ls hl => ?_)
      refine lv_goto (tgt := 28) hx hb dL_law_1624 (by decide) ?_
      refine W.widen (k := cells + 3) (n := slots + 18) (by omega) (by omega) ?_
      exact hrc _ _ _ _ _ _ _ hk hP hS (lv_sub hl [0, 3, 4, 5, 6, 7] rfl)
    · have hk := it_f cz9 hk
      refine lv_iconst (v := (1 : Int32)) hx hb dL_law_1151 (by decide) ?_
      refine lv_goto (tgt := 1156) hx hb dL_law_1152 (by decide) ?_
      obtain ⟨M14, v13, hf15, hk⟩ := b1_s hk
      refine wc_lV0 (rest := []) (As := [.int (xs ((ix + (1 : Int32))).toNatClampNeg), .int (1 : Int32)]) ⟨hx, hb, hml, hown, hts⟩ (fun sz => k_X7_style l hfl Z hZ X M O5 (xs ((ix + (1 : Int32))).toNatClampNeg) (1 : Int32) M14 v13 hf15 sz) (cw_RL_259 (args := _) (s := s) hts (Nat.le_of_ble_eq_true rfl) (Nat.le_of_ble_eq_true rfl)) hE hP hK hS (rv_26 hK hP (by decide)) rfl hl.1 rfl (Nat.le_of_ble_eq_true rfl) dL_law_1156 ⟨by show _ ≤ 603072; omega, by show _ ≤ 7223402; omega⟩ (fun H locs hP hS => ?_)
      refine lv_lstore (lv' := [(7, .long v13), (6, .int v4), (5, .int ix), (4, .ref (Z.2.2 57 0)), (3, .ref (Z.2.2 56 0)), (2, .ref (Z.2.2 26 0)), (1, .ref (Z.2.2 0 0)), (0, .ref b)]) hx hb dL_law_1159 hl (by decide) rfl (fun ls hl => ?_)
      refine lv_goto (tgt := 1621) hx hb dL_law_1161 (by decide) ?_
      refine lv_iinc (v := (ix + (4 : Int32))) (lv' := [(5, .int (ix + (4 : Int32))), (7, .long v13), (6, .int v4), (4, .ref (Z.2.2 57 0)), (3, .ref (Z.2.2 56 0)), (2, .ref (Z.2.2 26 0)), (1, .ref (Z.2.2 0 0)), (0, .ref b)]) hx hb dL_law_1621 hl (k := 2) rfl rfl (by decide) rfl (fun ls hl => ?_)
      refine lv_goto (tgt := 28) hx hb dL_law_1624 (by decide) ?_
      refine W.widen (k := cells + 3) (n := slots + 18) (by omega) (by omega) ?_
      exact hrc _ _ _ _ _ _ _ hk hP hS (lv_sub hl [0, 3, 4, 5, 6, 7] rfl)
  · have hk := it_f cz3 hk
    refine lv_iconst (v := (1 : Int32)) hx hb dL_law_1124 (by decide) ?_
    refine lv_goto (tgt := 1129) hx hb dL_law_1125 (by decide) ?_
    refine lv_aload_n hx hb dL_law_1129 rfl (lv_at hl 2 rfl) ?_
    obtain ⟨O17, v16, hf18, hk⟩ := b1_s hk
    refine wc_iSX0 (rest := []) (As := [.ref (Z.2.2 0 0), .int (xs ((ix + (1 : Int32))).toNatClampNeg), .int (1 : Int32), .ref (Z.2.2 56 0)]) ⟨hx, hb, hml, hown, hts⟩ (fun sz => k_L_style l hfl Z hZ X M O (xs ((ix + (1 : Int32))).toNatClampNeg) (1 : Int32) O17 v16 hf18 sz) (cw_RL_257 (args := _) (s := s) hts (Nat.le_of_ble_eq_true rfl) (Nat.le_of_ble_eq_true rfl)) hE hP hK hS  rfl hl.1 rfl (Nat.le_of_ble_eq_true rfl) dL_law_1130 ⟨by show _ ≤ 603072; omega, by show _ ≤ 7223402; omega⟩ (fun H locs hP hS => ?_)
    refine lv_istore (lv' := [(6, .int v16), (5, .int ix), (4, .ref (Z.2.2 57 0)), (3, .ref (Z.2.2 56 0)), (2, .ref (Z.2.2 26 0)), (1, .ref (Z.2.2 0 0)), (0, .ref b)]) hx hb dL_law_1133 hl (by decide) rfl (fun ls hl => ?_)
    refine lv_aload_n hx hb dL_law_1135 rfl (lv_at hl 4 rfl) ?_
    refine lv_aload_n hx hb dL_law_1136 rfl (lv_at hl 6 rfl) ?_
    refine lv_iload hx hb dL_law_1137 (lv_at hl 1 rfl) ?_
    refine lv_iconst (v := (1 : Int32)) hx hb dL_law_1139 (by decide) ?_
    refine lv_iadd hx hb dL_law_1140 ?_
    obtain ⟨hg19, hk⟩ := gd_s hk
    refine va_sld hx hb hX hbl hbA hS hg19 dL_law_1141 ?_
    refine lv_aload_n hx hb dL_law_1142 rfl (lv_at hl 6 rfl) ?_
    refine lv_iload hx hb dL_law_1143 (lv_at hl 1 rfl) ?_
    refine lv_iconst (v := (2 : Int32)) hx hb dL_law_1145 (by decide) ?_
    refine lv_iadd hx hb dL_law_1146 ?_
    obtain ⟨hg20, hk⟩ := gd_s hk
    refine va_sld hx hb hX hbl hbA hS hg20 dL_law_1147 ?_
    refine lv_if_eq (tgt := 1155) hx hb dL_law_1148 (by decide) (fun cz21 => ?_) (fun cz21 => ?_)
    · have hk := it_t cz21 hk
      refine lv_iconst (v := (0 : Int32)) hx hb dL_law_1155 (by decide) ?_
      obtain ⟨M23, v22, hf24, hk⟩ := b1_s hk
      refine wc_lV0 (rest := []) (As := [.int (xs ((ix + (1 : Int32))).toNatClampNeg), .int (0 : Int32)]) ⟨hx, hb, hml, hown, hts⟩ (fun sz => k_X7_style l hfl Z hZ X M O17 (xs ((ix + (1 : Int32))).toNatClampNeg) (0 : Int32) M23 v22 hf24 sz) (cw_RL_259 (args := _) (s := s) hts (Nat.le_of_ble_eq_true rfl) (Nat.le_of_ble_eq_true rfl)) hE hP hK hS (rv_26 hK hP (by decide)) rfl hl.1 rfl (Nat.le_of_ble_eq_true rfl) dL_law_1156 ⟨by show _ ≤ 603072; omega, by show _ ≤ 7223402; omega⟩ (fun H locs hP hS => ?_)
      refine lv_lstore (lv' := [(7, .long v22), (6, .int v16), (5, .int ix), (4, .ref (Z.2.2 57 0)), (3, .ref (Z.2.2 56 0)), (2, .ref (Z.2.2 26 0)), (1, .ref (Z.2.2 0 0)), (0, .ref b)]) hx hb dL_law_1159 hl (by decide) rfl (fun ls hl => ?_)
      refine lv_goto (tgt := 1621) hx hb dL_law_1161 (by decide) ?_
      refine lv_iinc (v := (ix + (4 : Int32))) (lv' := [(5, .int (ix + (4 : Int32))), (7, .long v22), (6, .int v16), (4, .ref (Z.2.2 57 0)), (3, .ref (Z.2.2 56 0)), (2, .ref (Z.2.2 26 0)), (1, .ref (Z.2.2 0 0)), (0, .ref b)]) hx hb dL_law_1621 hl (k := 2) rfl rfl (by decide) rfl (fun ls hl => ?_)
      refine lv_goto (tgt := 28) hx hb dL_law_1624 (by decide) ?_
      refine W.widen (k := cells + 3) (n := slots + 18) (by omega) (by omega) ?_
      exact hrc _ _ _ _ _ _ _ hk hP hS (lv_sub hl [0, 3, 4, 5, 6, 7] rfl)
    · have hk := it_f cz21 hk
      refine lv_iconst (v := (1 : Int32)) hx hb dL_law_1151 (by decide) ?_
      refine lv_goto (tgt := 1156) hx hb dL_law_1152 (by decide) ?_
      obtain ⟨M26, v25, hf27, hk⟩ := b1_s hk
      refine wc_lV0 (rest := []) (As := [.int (xs ((ix + (1 : Int32))).toNatClampNeg), .int (1 : Int32)]) ⟨hx, hb, hml, hown, hts⟩ (fun sz => k_X7_style l hfl Z hZ X M O17 (xs ((ix + (1 : Int32))).toNatClampNeg) (1 : Int32) M26 v25 hf27 sz) (cw_RL_259 (args := _) (s := s) hts (Nat.le_of_ble_eq_true rfl) (Nat.le_of_ble_eq_true rfl)) hE hP hK hS (rv_26 hK hP (by decide)) rfl hl.1 rfl (Nat.le_of_ble_eq_true rfl) dL_law_1156 ⟨by show _ ≤ 603072; omega, by show _ ≤ 7223402; omega⟩ (fun H locs hP hS => ?_)
      refine lv_lstore (lv' := [(7, .long v25), (6, .int v16), (5, .int ix), (4, .ref (Z.2.2 57 0)), (3, .ref (Z.2.2 56 0)), (2, .ref (Z.2.2 26 0)), (1, .ref (Z.2.2 0 0)), (0, .ref b)]) hx hb dL_law_1159 hl (by decide) rfl (fun ls hl => ?_)
      refine lv_goto (tgt := 1621) hx hb dL_law_1161 (by decide) ?_
      refine lv_iinc (v := (ix + (4 : Int32))) (lv' := [(5, .int (ix + (4 : Int32))), (7, .long v25), (6, .int v16), (4, .ref (Z.2.2 57 0)), (3, .ref (Z.2.2 56 0)), (2, .ref (Z.2.2 26 0)), (1, .ref (Z.2.2 0 0)), (0, .ref b)]) hx hb dL_law_1621 hl (k := 2) rfl rfl (by decide) rfl (fun ls hl => ?_)
      refine lv_goto (tgt := 28) hx hb dL_law_1624 (by decide) ?_
      refine W.widen (k := cells + 3) (n := slots + 18) (by omega) (by omega) ?_
      exact hrc _ _ _ _ _ _ _ hk hP hS (lv_sub hl [0, 3, 4, 5, 6, 7] rfl)
set_option maxHeartbeats 4000000 in
set_option maxRecDepth 100000 in
theorem law_C29 (hfl : l.stackTraces = false) (hZ : wD Z) (hx : p.tables.exec = Jvm.exec) (hb : c.code = code) (hml : c.maxLocals = 9) (hown : s.vm.findClass RL = some m.cls) (hts : ∀ w ∈ lw_all, w.before #[Value.ref b] s = true) (hE : EV (wA Z s.heap.size) s) (hK : wK Z s) (hX : va_X b L xs s s.heap) (hbl : b < s.heap.size) (hbA : ¬ wA Z s.heap.size b) {rc : Int32 → SS → SS → SS → Option Unit} {cells slots : Nat} (hcc : cells + 3 ≤ 603072) (hss : slots + 18 ≤ 7223402) (hrc : ∀ (ix : Int32) (X M O : SS) (H : Heap) (locs : List Loc) (ls : Array Slot), rc ix X M O = some () → wP Z (X, M, O) H → va_S (wA Z s.heap.size) s.heap H locs → lv_has ls 9 [(5, .int ix), (4, .ref (Z.2.2 57 0)), (3, .ref (Z.2.2 56 0)), (2, .ref (Z.2.2 26 0)), (1, .ref (Z.2.2 0 0)), (0, .ref b)] → W p l e room_1 s m #[Value.ref b] below meth c H locs (cells + 3) (slots + 18) Q (F0 m 28 ls [])) (ix : Int32) (X M O : SS) (H : Heap) (locs : List Loc) (ls : Array Slot) (hk : f_law_C29 xs L ix X M O rc = some ()) (hP : wP Z (X, M, O) H) (hS : va_S (wA Z s.heap.size) s.heap H locs) (hl : lv_has ls 9 [(5, .int ix), (4, .ref (Z.2.2 57 0)), (3, .ref (Z.2.2 56 0)), (2, .ref (Z.2.2 26 0)), (1, .ref (Z.2.2 0 0)), (0, .ref b)]) : W p l e room_1 s m #[Value.ref b] below meth c H locs cells slots Q (F0 m 1164 ls []) := by
  unfold f_law_C29 at hk
  refine lv_aload_n hx hb dL_law_1164 rfl (lv_at hl 4 rfl) ?_
  refine lv_aload_n hx hb dL_law_1165 rfl (lv_at hl 5 rfl) ?_
  refine lv_iload hx hb dL_law_1166 (lv_at hl 0 rfl) ?_
  refine lv_iconst (v := (1 : Int32)) hx hb dL_law_1168 (by decide) ?_
  refine lv_iadd hx hb dL_law_1169 ?_
  obtain ⟨hg1, hk⟩ := gd_s hk
  refine va_sld hx hb hX hbl hbA hS hg1 dL_law_1170 ?_
  refine lv_aload_n hx hb dL_law_1171 rfl (lv_at hl 2 rfl) ?_
  obtain ⟨O3, v2, hf4, hk⟩ := b1_s hk
  refine wc_iSX0 (rest := []) (As := [.ref (Z.2.2 0 0), .int (xs ((ix + (1 : Int32))).toNatClampNeg), .ref (Z.2.2 56 0)]) ⟨hx, hb, hml, hown, hts⟩ (fun sz => k_L_review l hfl Z hZ X M O (xs ((ix + (1 : Int32))).toNatClampNeg) O3 v2 hf4 sz) (cw_RL_260 (args := _) (s := s) hts (Nat.le_of_ble_eq_true rfl) (Nat.le_of_ble_eq_true rfl)) hE hP hK hS  rfl hl.1 rfl (Nat.le_of_ble_eq_true rfl) dL_law_1172 ⟨by show _ ≤ 603072; omega, by show _ ≤ 7223402; omega⟩ (fun H locs hP hS => ?_)
  refine lv_istore (lv' := [(6, .int v2), (5, .int ix), (4, .ref (Z.2.2 57 0)), (3, .ref (Z.2.2 56 0)), (2, .ref (Z.2.2 26 0)), (1, .ref (Z.2.2 0 0)), (0, .ref b)]) hx hb dL_law_1175 hl (by decide) rfl (fun ls hl => ?_)
  refine lv_aload_n hx hb dL_law_1177 rfl (lv_at hl 4 rfl) ?_
  refine lv_aload_n hx hb dL_law_1178 rfl (lv_at hl 6 rfl) ?_
  refine lv_iload hx hb dL_law_1179 (lv_at hl 1 rfl) ?_
  refine lv_iconst (v := (1 : Int32)) hx hb dL_law_1181 (by decide) ?_
  refine lv_iadd hx hb dL_law_1182 ?_
  obtain ⟨hg5, hk⟩ := gd_s hk
  refine va_sld hx hb hX hbl hbA hS hg5 dL_law_1183 ?_
  obtain ⟨M7, v6, hf8, hk⟩ := b1_s hk
  refine wc_iV0 (rest := []) (As := [.int (xs ((ix + (1 : Int32))).toNatClampNeg)]) ⟨hx, hb, hml, hown, hts⟩ (fun sz => k_X7_review l hfl Z hZ X M O3 (xs ((ix + (1 : Int32))).toNatClampNeg) M7 v6 hf8 sz) (cw_RL_262 (args := _) (s := s) hts (Nat.le_of_ble_eq_true rfl) (Nat.le_of_ble_eq_true rfl)) hE hP hK hS (rv_26 hK hP (by decide)) rfl hl.1 rfl (Nat.le_of_ble_eq_true rfl) dL_law_1184 ⟨by show _ ≤ 603072; omega, by show _ ≤ 7223402; omega⟩ (fun H locs hP hS => ?_)
  refine lv_istore (lv' := [(7, .int v6), (6, .int v2), (5, .int ix), (4, .ref (Z.2.2 57 0)), (3, .ref (Z.2.2 56 0)), (2, .ref (Z.2.2 26 0)), (1, .ref (Z.2.2 0 0)), (0, .ref b)]) hx hb dL_law_1187 hl (by decide) rfl (fun ls hl => ?_)
  refine lv_goto (tgt := 1621) hx hb dL_law_1189 (by decide) ?_
  refine lv_iinc (v := (ix + (4 : Int32))) (lv' := [(5, .int (ix + (4 : Int32))), (7, .int v6), (6, .int v2), (4, .ref (Z.2.2 57 0)), (3, .ref (Z.2.2 56 0)), (2, .ref (Z.2.2 26 0)), (1, .ref (Z.2.2 0 0)), (0, .ref b)]) hx hb dL_law_1621 hl (k := 2) rfl rfl (by decide) rfl (fun ls hl => ?_)
  refine lv_goto (tgt := 28) hx hb dL_law_1624 (by decide) ?_
  refine W.widen (k := cells + 3) (n := slots + 18) (by omega) (by omega) ?_
  exact hrc _ _ _ _ _ _ _ hk hP hS (lv_sub hl [0, 3, 4, 5, 6, 7] rfl)