variable {p : Program} {l : Launch} {e : Env} {s : State} {m : MethodId} {below : List Frame} {meth : Method} {c : Code} {Q : State → Prop} {Z : ZT} {b L : Nat} {xs : Nat → Int32}
set_option maxHeartbeats 4000000 in
set_option maxRecDepth 100000 in
theorem law_C15 (hfl : l.stackTraces = false) (hZ : wD Z) (hx : p.tables.exec = Jvm.exec) (hb : c.code = code) (hml : c.maxLocals = 9) (hown : s.vm.findClass RL = some m.cls) (hts : ∀ w ∈ lw_all, w.before #[Value.ref b] s = true) (hE : EV (wA Z s.heap.size) s) (hK : wK Z s) (hX : va_X b L xs s s.heap) (hbl : b < s.heap.size) (hbA : ¬ wA Z s.heap.size b) {rc : Int32 → SS → SS → SS → Option Unit} {cells slots : Nat} (hcc : cells + 3 ≤ 603072) (hss : slots + 18 ≤ 7223402) (hrc : ∀ (ix : Int32) (X M O : SS) (H : Heap) (locs : List Loc) (ls : Array Slot), rc ix X M O = some () → wP Z (X, M, O) H → va_S (wA Z s.heap.size) s.heap H locs → lv_has ls 9 [(5, .int ix), (4, .ref (Z.2.2 57 0)), (3, .ref (Z.2.2 56 0)), (2, .ref (Z.2.2 26 0)), (1, .ref (Z.2.2 0 0)), (0, .ref b)] → W p l e room_1 s m #[Value.ref b] below meth c H locs (cells + 3) (slots + 18) Q (F0 m 28 ls [])) (ix : Int32) (X M O : SS) (H : Heap) (locs : List Loc) (ls : Array Slot) (hk : f_law_C15 xs L ix X M O rc = some ()) (hP : wP Z (X, M, O) H) (hS : va_S (wA Z s.heap.size) s.heap H locs) (hl : lv_has ls 9 [(5, .int ix), (4, .ref (Z.2.2 57 0)), (3, .ref (Z.2.2 56 0)), (2, .ref (Z.2.2 26 0)), (1, .ref (Z.2.2 0 0)), (0, .ref b)]) : W p l e room_1 s m #[Value.ref b] below meth c H locs cells slots Q (F0 m 660 ls []) := by
  unfold f_law_C15 at hk
  refine lv_aload_n hx hb dL_law_660 rfl (lv_at hl 4 rfl) ?_
  obtain ⟨v1, hf2, hk⟩ := b0_s hk
  refine wc_iV0 (rest := []) (As := []) ⟨hx, hb, hml, hown, hts⟩ (fun sz => k_X6_works l hfl Z hZ X M O v1 hf2 sz) (cw_RL_211 (args := _) (s := s) hts (Nat.le_of_ble_eq_true rfl) (Nat.le_of_ble_eq_true rfl)) hE hP hK hS (rv_0 hK hP (by decide)) rfl hl.1 rfl (Nat.le_of_ble_eq_true rfl) dL_law_661 ⟨by show _ ≤ 603072; omega, by show _ ≤ 7223402; omega⟩ (fun H locs hP hS => ?_)
  refine lv_pop hx hb dL_law_664 rfl ?_
  refine lv_aload_n hx hb dL_law_665 rfl (lv_at hl 3 rfl) ?_
  obtain ⟨M4, v3, hf5, hk⟩ := b1_s hk
  refine wc_iV0 (rest := []) (As := []) ⟨hx, hb, hml, hown, hts⟩ (fun sz => k_X7_works l hfl Z hZ X M O M4 v3 hf5 sz) (cw_RL_214 (args := _) (s := s) hts (Nat.le_of_ble_eq_true rfl) (Nat.le_of_ble_eq_true rfl)) hE hP hK hS (rv_26 hK hP (by decide)) rfl hl.1 rfl (Nat.le_of_ble_eq_true rfl) dL_law_666 ⟨by show _ ≤ 603072; omega, by show _ ≤ 7223402; omega⟩ (fun H locs hP hS => ?_)
  refine lv_pop hx hb dL_law_669 rfl ?_
  refine lv_goto (tgt := 1620) hx hb dL_law_670 (by decide) ?_
  refine lv_iinc (v := (ix + (4 : Int32))) (lv' := [(5, .int (ix + (4 : Int32))), (4, .ref (Z.2.2 57 0)), (3, .ref (Z.2.2 56 0)), (2, .ref (Z.2.2 26 0)), (1, .ref (Z.2.2 0 0)), (0, .ref b)]) hx hb dL_law_1620 hl (k := 0) rfl rfl (by decide) rfl (fun ls hl => ?_)
  refine lv_goto (tgt := 28) hx hb dL_law_1623 (by decide) ?_
  refine W.widen (k := cells + 3) (n := slots + 18) (by omega) (by omega) ?_
  exact hrc _ _ _ _ _ _ _ hk hP hS (lv_sub hl [0, 1, 2, 3, 4, 5] rfl)
set_option maxHeartbeats 4000000 in
set_option maxRecDepth 100000 in
theorem law_C16 (hfl : l.stackTraces = false) (hZ : wD Z) (hx : p.tables.exec = Jvm.exec) (hb : c.code = code) (hml : c.maxLocals = 9) (hown : s.vm.findClass RL = some m.cls) (hts : ∀ w ∈ lw_all, w.before #[Value.ref b] s = true) (hE : EV (wA Z s.heap.size) s) (hK : wK Z s) (hX : va_X b L xs s s.heap) (hbl : b < s.heap.size) (hbA : ¬ wA Z s.heap.size b) {rc : Int32 → SS → SS → SS → Option Unit} {cells slots : Nat} (hcc : cells + 3 ≤ 603072) (hss : slots + 18 ≤ 7223402) (hrc : ∀ (ix : Int32) (X M O : SS) (H : Heap) (locs : List Loc) (ls : Array Slot), rc ix X M O = some () → wP Z (X, M, O) H → va_S (wA Z s.heap.size) s.heap H locs → lv_has ls 9 [(5, .int ix), (4, .ref (Z.2.2 57 0)), (3, .ref (Z.2.2 56 0)), (2, .ref (Z.2.2 26 0)), (1, .ref (Z.2.2 0 0)), (0, .ref b)] → W p l e room_1 s m #[Value.ref b] below meth c H locs (cells + 3) (slots + 18) Q (F0 m 28 ls [])) (ix : Int32) (X M O : SS) (H : Heap) (locs : List Loc) (ls : Array Slot) (hk : f_law_C16 xs L ix X M O rc = some ()) (hP : wP Z (X, M, O) H) (hS : va_S (wA Z s.heap.size) s.heap H locs) (hl : lv_has ls 9 [(5, .int ix), (4, .ref (Z.2.2 57 0)), (3, .ref (Z.2.2 56 0)), (2, .ref (Z.2.2 26 0)), (1, .ref (Z.2.2 0 0)), (0, .ref b)]) : W p l e room_1 s m #[Value.ref b] below meth c H locs cells slots Q (F0 m 673 ls []) := by
  unfold f_law_C16 at hk
  refine lv_aload_n hx hb dL_law_673 rfl (lv_at hl 4 rfl) ?_
  refine lv_aload_n hx hb dL_law_674 rfl (lv_at hl 5 rfl) ?_
  refine lv_iload hx hb dL_law_675 (lv_at hl 0 rfl) ?_
  refine lv_iconst (v := (1 : Int32)) hx hb dL_law_677 (by decide) ?_
  refine lv_iadd hx hb dL_law_678 ?_
  obtain ⟨hg1, hk⟩ := gd_s hk
  refine va_sld hx hb hX hbl hbA hS hg1 dL_law_679 ?_
  refine lv_aload_n hx hb dL_law_680 rfl (lv_at hl 5 rfl) ?_
  refine lv_iload hx hb dL_law_681 (lv_at hl 0 rfl) ?_
  refine lv_iconst (v := (2 : Int32)) hx hb dL_law_683 (by decide) ?_
  refine lv_iadd hx hb dL_law_684 ?_
  obtain ⟨hg2, hk⟩ := gd_s hk
  refine va_sld hx hb hX hbl hbA hS hg2 dL_law_685 ?_
  refine lv_i2c (v := (((xs ((ix + (2 : Int32))).toNatClampNeg)).toUInt32 % 65536).toInt32) hx hb dL_law_686 rfl ?_
  refine lv_aload_n hx hb dL_law_687 rfl (lv_at hl 2 rfl) ?_
  obtain ⟨O4, v3, hf5, hk⟩ := b1_s hk
  refine wc_iSX0 (rest := []) (As := [.ref (Z.2.2 0 0), .int (xs ((ix + (1 : Int32))).toNatClampNeg), .int (((xs ((ix + (2 : Int32))).toNatClampNeg)).toUInt32 % 65536).toInt32, .ref (Z.2.2 56 0)]) ⟨hx, hb, hml, hown, hts⟩ (fun sz => k_L_of l hfl Z hZ X M O (xs ((ix + (1 : Int32))).toNatClampNeg) (((xs ((ix + (2 : Int32))).toNatClampNeg)).toUInt32 % 65536).toInt32 O4 v3 hf5 sz) (cw_RL_215 (args := _) (s := s) hts (Nat.le_of_ble_eq_true rfl) (Nat.le_of_ble_eq_true rfl)) hE hP hK hS  rfl hl.1 rfl (Nat.le_of_ble_eq_true rfl) dL_law_688 ⟨by show _ ≤ 603072; omega, by show _ ≤ 7223402; omega⟩ (fun H locs hP hS => ?_)
  refine lv_istore (lv' := [(6, .int v3), (5, .int ix), (4, .ref (Z.2.2 57 0)), (3, .ref (Z.2.2 56 0)), (2, .ref (Z.2.2 26 0)), (1, .ref (Z.2.2 0 0)), (0, .ref b)]) hx hb dL_law_691 hl (by decide) rfl (fun ls hl => ?_)
  refine lv_aload_n hx hb dL_law_693 rfl (lv_at hl 4 rfl) ?_
  refine lv_aload_n hx hb dL_law_694 rfl (lv_at hl 6 rfl) ?_
  refine lv_iload hx hb dL_law_695 (lv_at hl 1 rfl) ?_
  refine lv_iconst (v := (1 : Int32)) hx hb dL_law_697 (by decide) ?_
  refine lv_iadd hx hb dL_law_698 ?_
  obtain ⟨hg6, hk⟩ := gd_s hk
  refine va_sld hx hb hX hbl hbA hS hg6 dL_law_699 ?_
  refine lv_aload_n hx hb dL_law_700 rfl (lv_at hl 6 rfl) ?_
  refine lv_iload hx hb dL_law_701 (lv_at hl 1 rfl) ?_
  refine lv_iconst (v := (2 : Int32)) hx hb dL_law_703 (by decide) ?_
  refine lv_iadd hx hb dL_law_704 ?_
  obtain ⟨hg7, hk⟩ := gd_s hk
  refine va_sld hx hb hX hbl hbA hS hg7 dL_law_705 ?_
  refine lv_i2c (v := (((xs ((ix + (2 : Int32))).toNatClampNeg)).toUInt32 % 65536).toInt32) hx hb dL_law_706 rfl ?_
  obtain ⟨M9, v8, hf10, hk⟩ := b1_s hk
  refine wc_iV0 (rest := []) (As := [.int (xs ((ix + (1 : Int32))).toNatClampNeg), .int (((xs ((ix + (2 : Int32))).toNatClampNeg)).toUInt32 % 65536).toInt32]) ⟨hx, hb, hml, hown, hts⟩ (fun sz => k_X7_of l hfl Z hZ X M O4 (xs ((ix + (1 : Int32))).toNatClampNeg) (((xs ((ix + (2 : Int32))).toNatClampNeg)).toUInt32 % 65536).toInt32 M9 v8 hf10 sz) (cw_RL_218 (args := _) (s := s) hts (Nat.le_of_ble_eq_true rfl) (Nat.le_of_ble_eq_true rfl)) hE hP hK hS (rv_26 hK hP (by decide)) rfl hl.1 rfl (Nat.le_of_ble_eq_true rfl) dL_law_707 ⟨by show _ ≤ 603072; omega, by show _ ≤ 7223402; omega⟩ (fun H locs hP hS => ?_)
  refine lv_istore (lv' := [(7, .int v8), (6, .int v3), (5, .int ix), (4, .ref (Z.2.2 57 0)), (3, .ref (Z.2.2 56 0)), (2, .ref (Z.2.2 26 0)), (1, .ref (Z.2.2 0 0)), (0, .ref b)]) hx hb dL_law_710 hl (by decide) rfl (fun ls hl => ?_)
  refine lv_goto (tgt := 1620) hx hb dL_law_712 (by decide) ?_
  refine lv_iinc (v := (ix + (4 : Int32))) (lv' := [(5, .int (ix + (4 : Int32))), (7, .int v8), (6, .int v3), (4, .ref (Z.2.2 57 0)), (3, .ref (Z.2.2 56 0)), (2, .ref (Z.2.2 26 0)), (1, .ref (Z.2.2 0 0)), (0, .ref b)]) hx hb dL_law_1620 hl (k := 2) rfl rfl (by decide) rfl (fun ls hl => ?_)
  refine lv_goto (tgt := 28) hx hb dL_law_1623 (by decide) ?_
  refine W.widen (k := cells + 3) (n := slots + 18) (by omega) (by omega) ?_
  exact hrc _ _ _ _ _ _ _ hk hP hS (lv_sub hl [0, 3, 4, 5, 6, 7] rfl)
set_option maxHeartbeats 4000000 in
set_option maxRecDepth 100000 in
theorem law_C17 (hfl : l.stackTraces = false) (hZ : wD Z) (hx : p.tables.exec = Jvm.exec) (hb : c.code = code) (hml : c.maxLocals = 9) (hown : s.vm.findClass RL = some m.cls) (hts : ∀ w ∈ lw_all, w.before #[Value.ref b] s = true) (hE : EV (wA Z s.heap.size) s) (hK : wK Z s) (hX : va_X b L xs s s.heap) (hbl : b < s.heap.size) (hbA : ¬ wA Z s.heap.size b) {rc : Int32 → SS → SS → SS → Option Unit} {cells slots : Nat} (hcc : cells + 3 ≤ 603072) (hss : slots + 18 ≤ 7223402) (hrc : ∀ (ix : Int32) (X M O : SS) (H : Heap) (locs : List Loc) (ls : Array Slot), rc ix X M O = some () → wP Z (X, M, O) H → va_S (wA Z s.heap.size) s.heap H locs → lv_has ls 9 [(5, .int ix), (4, .ref (Z.2.2 57 0)), (3, .ref (Z.2.2 56 0)), (2, .ref (Z.2.2 26 0)), (1, .ref (Z.2.2 0 0)), (0, .ref b)] → W p l e room_1 s m #[Value.ref b] below meth c H locs (cells + 3) (slots + 18) Q (F0 m 28 ls [])) (ix : Int32) (X M O : SS) (H : Heap) (locs : List Loc) (ls : Array Slot) (hk : f_law_C17 xs L ix X M O rc = some ()) (hP : wP Z (X, M, O) H) (hS : va_S (wA Z s.heap.size) s.heap H locs) (hl : lv_has ls 9 [(5, .int ix), (4, .ref (Z.2.2 57 0)), (3, .ref (Z.2.2 56 0)), (2, .ref (Z.2.2 26 0)), (1, .ref (Z.2.2 0 0)), (0, .ref b)]) : W p l e room_1 s m #[Value.ref b] below meth c H locs cells slots Q (F0 m 715 ls []) := by
  unfold f_law_C17 at hk
  refine lv_aload_n hx hb dL_law_715 rfl (lv_at hl 4 rfl) ?_
  refine lv_aload_n hx hb dL_law_716 rfl (lv_at hl 5 rfl) ?_
  refine lv_iload hx hb dL_law_717 (lv_at hl 0 rfl) ?_
  refine lv_iconst (v := (1 : Int32)) hx hb dL_law_719 (by decide) ?_
  refine lv_iadd hx hb dL_law_720 ?_
  obtain ⟨hg1, hk⟩ := gd_s hk
  refine va_sld hx hb hX hbl hbA hS hg1 dL_law_721 ?_
  refine lv_aload_n hx hb dL_law_722 rfl (lv_at hl 2 rfl) ?_
  obtain ⟨O3, v2, hf4, hk⟩ := b1_s hk
  refine wc_iSX0 (rest := []) (As := [.ref (Z.2.2 0 0), .int (xs ((ix + (1 : Int32))).toNatClampNeg), .ref (Z.2.2 56 0)]) ⟨hx, hb, hml, hown, hts⟩ (fun sz => k_L_state l hfl Z hZ X M O (xs ((ix + (1 : Int32))).toNatClampNeg) O3 v2 hf4 sz) (cw_RL_219 (args := _) (s := s) hts (Nat.le_of_ble_eq_true rfl) (Nat.le_of_ble_eq_true rfl)) hE hP hK hS  rfl hl.1 rfl (Nat.le_of_ble_eq_true rfl) dL_law_723 ⟨by show _ ≤ 603072; omega, by show _ ≤ 7223402; omega⟩ (fun H locs hP hS => ?_)
  refine lv_istore (lv' := [(6, .int v2), (5, .int ix), (4, .ref (Z.2.2 57 0)), (3, .ref (Z.2.2 56 0)), (2, .ref (Z.2.2 26 0)), (1, .ref (Z.2.2 0 0)), (0, .ref b)]) hx hb dL_law_726 hl (by decide) rfl (fun ls hl => ?_)
  refine lv_aload_n hx hb dL_law_728 rfl (lv_at hl 4 rfl) ?_
  refine lv_aload_n hx hb dL_law_729 rfl (lv_at hl 6 rfl) ?_
  refine lv_iload hx hb dL_law_730 (lv_at hl 1 rfl) ?_
  refine lv_iconst (v := (1 : Int32)) hx hb dL_law_732 (by decide) ?_
  refine lv_iadd hx hb dL_law_733 ?_
  obtain ⟨hg5, hk⟩ := gd_s hk
  refine va_sld hx hb hX hbl hbA hS hg5 dL_law_734 ?_
  obtain ⟨M7, v6, hf8, hk⟩ := b1_s hk
  refine wc_iV0 (rest := []) (As := [.int (xs ((ix + (1 : Int32))).toNatClampNeg)]) ⟨hx, hb, hml, hown, hts⟩ (fun sz => k_X7_state l hfl Z hZ X M O3 (xs ((ix + (1 : Int32))).toNatClampNeg) M7 v6 hf8 sz) (cw_RL_221 (args := _) (s := s) hts (Nat.le_of_ble_eq_true rfl) (Nat.le_of_ble_eq_true rfl)) hE hP hK hS (rv_26 hK hP (by decide)) rfl hl.1 rfl (Nat.le_of_ble_eq_true rfl) dL_law_735 ⟨by show _ ≤ 603072; omega, by show _ ≤ 7223402; omega⟩ (fun H locs hP hS => ?_)
  refine lv_istore (lv' := [(7, .int v6), (6, .int v2), (5, .int ix), (4, .ref (Z.2.2 57 0)), (3, .ref (Z.2.2 56 0)), (2, .ref (Z.2.2 26 0)), (1, .ref (Z.2.2 0 0)), (0, .ref b)]) hx hb dL_law_738 hl (by decide) rfl (fun ls hl => ?_)
  refine lv_goto (tgt := 1620) hx hb dL_law_740 (by decide) ?_
  refine lv_iinc (v := (ix + (4 : Int32))) (lv' := [(5, .int (ix + (4 : Int32))), (7, .int v6), (6, .int v2), (4, .ref (Z.2.2 57 0)), (3, .ref (Z.2.2 56 0)), (2, .ref (Z.2.2 26 0)), (1, .ref (Z.2.2 0 0)), (0, .ref b)]) hx hb dL_law_1620 hl (k := 2) rfl rfl (by decide) rfl (fun ls hl => ?_)
  refine lv_goto (tgt := 28) hx hb dL_law_1623 (by decide) ?_
  refine W.widen (k := cells + 3) (n := slots + 18) (by omega) (by omega) ?_
  exact hrc _ _ _ _ _ _ _ hk hP hS (lv_sub hl [0, 3, 4, 5, 6, 7] rfl)
set_option maxHeartbeats 4000000 in
set_option maxRecDepth 100000 in
theorem law_C18 (hfl : l.stackTraces = false) (hZ : wD Z) (hx : p.tables.exec = Jvm.exec) (hb : c.code = code) (hml : c.maxLocals = 9) (hown : s.vm.findClass RL = some m.cls) (hts : ∀ w ∈ lw_all, w.before #[Value.ref b] s = true) (hE : EV (wA Z s.heap.size) s) (hK : wK Z s) (hX : va_X b L xs s s.heap) (hbl : b < s.heap.size) (hbA : ¬ wA Z s.heap.size b) {rc : Int32 → SS → SS → SS → Option Unit} {cells slots : Nat} (hcc : cells + 3 ≤ 603072) (hss : slots + 18 ≤ 7223402) (hrc : ∀ (ix : Int32) (X M O : SS) (H : Heap) (locs : List Loc) (ls : Array Slot), rc ix X M O = some () → wP Z (X, M, O) H → va_S (wA Z s.heap.size) s.heap H locs → lv_has ls 9 [(5, .int ix), (4, .ref (Z.2.2 57 0)), (3, .ref (Z.2.2 56 0)), (2, .ref (Z.2.2 26 0)), (1, .ref (Z.2.2 0 0)), (0, .ref b)] → W p l e room_1 s m #[Value.ref b] below meth c H locs (cells + 3) (slots + 18) Q (F0 m 28 ls [])) (ix : Int32) (X M O : SS) (H : Heap) (locs : List Loc) (ls : Array Slot) (hk : f_law_C18 xs L ix X M O rc = some ()) (hP : wP Z (X, M, O) H) (hS : va_S (wA Z s.heap.size) s.heap H locs) (hl : lv_has ls 9 [(5, .int ix), (4, .ref (Z.2.2 57 0)), (3, .ref (Z.2.2 56 0)), (2, .ref (Z.2.2 26 0)), (1, .ref (Z.2.2 0 0)), (0, .ref b)]) : W p l e room_1 s m #[Value.ref b] below meth c H locs cells slots Q (F0 m 743 ls []) := by
  unfold f_law_C18 at hk
  refine lv_aload_n hx hb dL_law_743 rfl (lv_at hl 4 rfl) ?_
  refine lv_aload_n hx hb dL_law_744 rfl (lv_at hl 5 rfl) ?_
  refine lv_iload hx hb dL_law_745 (lv_at hl 0 rfl) ?_
  refine lv_iconst (v := (1 : Int32)) hx hb dL_law_747 (by decide) ?_
  refine lv_iadd hx hb dL_law_748 ?_
  obtain ⟨hg1, hk⟩ := gd_s hk
  refine va_sld hx hb hX hbl hbA hS hg1 dL_law_749 ?_
  refine lv_aload_n hx hb dL_law_750 rfl (lv_at hl 2 rfl) ?_
  obtain ⟨O3, v2, hf4, hk⟩ := b1_s hk
  refine wc_iSX0 (rest := []) (As := [.ref (Z.2.2 0 0), .int (xs ((ix + (1 : Int32))).toNatClampNeg), .ref (Z.2.2 56 0)]) ⟨hx, hb, hml, hown, hts⟩ (fun sz => k_L_sum l hfl Z hZ X M O (xs ((ix + (1 : Int32))).toNatClampNeg) O3 v2 hf4 sz) (cw_RL_222 (args := _) (s := s) hts (Nat.le_of_ble_eq_true rfl) (Nat.le_of_ble_eq_true rfl)) hE hP hK hS  rfl hl.1 rfl (Nat.le_of_ble_eq_true rfl) dL_law_751 ⟨by show _ ≤ 603072; omega, by show _ ≤ 7223402; omega⟩ (fun H locs hP hS => ?_)
  refine lv_istore (lv' := [(6, .int v2), (5, .int ix), (4, .ref (Z.2.2 57 0)), (3, .ref (Z.2.2 56 0)), (2, .ref (Z.2.2 26 0)), (1, .ref (Z.2.2 0 0)), (0, .ref b)]) hx hb dL_law_754 hl (by decide) rfl (fun ls hl => ?_)
  refine lv_aload_n hx hb dL_law_756 rfl (lv_at hl 4 rfl) ?_
  refine lv_aload_n hx hb dL_law_757 rfl (lv_at hl 6 rfl) ?_
  refine lv_iload hx hb dL_law_758 (lv_at hl 1 rfl) ?_
  refine lv_iconst (v := (1 : Int32)) hx hb dL_law_760 (by decide) ?_
  refine lv_iadd hx hb dL_law_761 ?_
  obtain ⟨hg5, hk⟩ := gd_s hk
  refine va_sld hx hb hX hbl hbA hS hg5 dL_law_762 ?_
  obtain ⟨M7, v6, hf8, hk⟩ := b1_s hk
  refine wc_lV0 (rest := []) (As := [.int (xs ((ix + (1 : Int32))).toNatClampNeg)]) ⟨hx, hb, hml, hown, hts⟩ (fun sz => k_X7_sum l hfl Z hZ X M O3 (xs ((ix + (1 : Int32))).toNatClampNeg) M7 v6 hf8 sz) (cw_RL_224 (args := _) (s := s) hts (Nat.le_of_ble_eq_true rfl) (Nat.le_of_ble_eq_true rfl)) hE hP hK hS (rv_26 hK hP (by decide)) rfl hl.1 rfl (Nat.le_of_ble_eq_true rfl) dL_law_763 ⟨by show _ ≤ 603072; omega, by show _ ≤ 7223402; omega⟩ (fun H locs hP hS => ?_)
  refine lv_lstore (lv' := [(7, .long v6), (6, .int v2), (5, .int ix), (4, .ref (Z.2.2 57 0)), (3, .ref (Z.2.2 56 0)), (2, .ref (Z.2.2 26 0)), (1, .ref (Z.2.2 0 0)), (0, .ref b)]) hx hb dL_law_766 hl (by decide) rfl (fun ls hl => ?_)
  refine lv_aload_n hx hb dL_law_768 rfl (lv_at hl 5 rfl) ?_
  obtain ⟨v9, hf10, hk⟩ := b0_s hk
  refine wc_iV0 (rest := []) (As := []) ⟨hx, hb, hml, hown, hts⟩ (fun sz => k_X7_thrown l hfl Z hZ X M7 O3 v9 hf10 sz) (cw_RL_225 (args := _) (s := s) hts (Nat.le_of_ble_eq_true rfl) (Nat.le_of_ble_eq_true rfl)) hE hP hK hS (rv_26 hK hP (by decide)) rfl hl.1 rfl (Nat.le_of_ble_eq_true rfl) dL_law_769 ⟨by show _ ≤ 603072; omega, by show _ ≤ 7223402; omega⟩ (fun H locs hP hS => ?_)
  refine lv_iload hx hb dL_law_772 (lv_at hl 1 rfl) ?_
  refine lv_icmp_eq (tgt := 779) hx hb dL_law_774 (by decide) (fun cz11 => ?_) (fun cz11 => ?_)
  · have hk := it_t cz11 hk
    refine lv_iload hx hb dL_law_779 (lv_at hl 1 rfl) ?_
    refine lv_if_ne (tgt := 795) hx hb dL_law_781 (by decide) (fun cz12 => ?_) (fun cz12 => ?_)
    · have hk := it_f cz12 hk
      refine lv_goto (tgt := 1620) hx hb dL_law_795 (by decide) ?_
      refine lv_iinc (v := (ix + (4 : Int32))) (lv' := [(5, .int (ix + (4 : Int32))), (7, .long v6), (6, .int v2), (4, .ref (Z.2.2 57 0)), (3, .ref (Z.2.2 56 0)), (2, .ref (Z.2.2 26 0)), (1, .ref (Z.2.2 0 0)), (0, .ref b)]) hx hb dL_law_1620 hl (k := 2) rfl rfl (by decide) rfl (fun ls hl => ?_)
      refine lv_goto (tgt := 28) hx hb dL_law_1623 (by decide) ?_
      refine W.widen (k := cells + 3) (n := slots + 18) (by omega) (by omega) ?_
      exact hrc _ _ _ _ _ _ _ hk hP hS (lv_sub hl [0, 3, 4, 5, 6, 7] rfl)
    · have hk := it_t cz12 hk
      refine lv_aload_n hx hb dL_law_784 rfl (lv_at hl 4 rfl) ?_
      refine lv_iconst (v := (0 : Int32)) hx hb dL_law_785 (by decide) ?_
      refine wa_laload_56 hx hb hK hP (by decide) (by unfold vp_in; decide) dL_law_786 ?_
      refine lv_lload hx hb dL_law_787 (lv_at hl 0 rfl) ?_
      refine W.lcmp hx hb dL_law_789 ?_
      refine lv_if_eq (tgt := 795) hx hb dL_law_790 (by decide) (fun cz13 => ?_) (fun cz13 => ?_)
      · have hk := it_t cz13 hk
        refine lv_goto (tgt := 1620) hx hb dL_law_795 (by decide) ?_
        refine lv_iinc (v := (ix + (4 : Int32))) (lv' := [(5, .int (ix + (4 : Int32))), (7, .long v6), (6, .int v2), (4, .ref (Z.2.2 57 0)), (3, .ref (Z.2.2 56 0)), (2, .ref (Z.2.2 26 0)), (1, .ref (Z.2.2 0 0)), (0, .ref b)]) hx hb dL_law_1620 hl (k := 2) rfl rfl (by decide) rfl (fun ls hl => ?_)
        refine lv_goto (tgt := 28) hx hb dL_law_1623 (by decide) ?_
        refine W.widen (k := cells + 3) (n := slots + 18) (by omega) (by omega) ?_
        exact hrc _ _ _ _ _ _ _ hk hP hS (lv_sub hl [0, 3, 4, 5, 6, 7] rfl)
      · have hk := it_f cz13 hk
        refine lv_iconst (v := (0 : Int32)) hx hb dL_law_793 (by decide) ?_
        exact nomatch (show none = some _ from hk)
  · have hk := it_f cz11 hk
    refine lv_iconst (v := (0 : Int32)) hx hb dL_law_777 (by decide) ?_
    exact nomatch (show none = some _ from hk)
set_option maxHeartbeats 4000000 in
set_option maxRecDepth 100000 in
theorem law_C19 (hfl : l.stackTraces = false) (hZ : wD Z) (hx : p.tables.exec = Jvm.exec) (hb : c.code = code) (hml : c.maxLocals = 9) (hown : s.vm.findClass RL = some m.cls) (hts : ∀ w ∈ lw_all, w.before #[Value.ref b] s = true) (hE : EV (wA Z s.heap.size) s) (hK : wK Z s) (hX : va_X b L xs s s.heap) (hbl : b < s.heap.size) (hbA : ¬ wA Z s.heap.size b) {rc : Int32 → SS → SS → SS → Option Unit} {cells slots : Nat} (hcc : cells + 3 ≤ 603072) (hss : slots + 18 ≤ 7223402) (hrc : ∀ (ix : Int32) (X M O : SS) (H : Heap) (locs : List Loc) (ls : Array Slot), rc ix X M O = some () → wP Z (X, M, O) H → va_S (wA Z s.heap.size) s.heap H locs → lv_has ls 9 [(5, .int ix), (4, .ref (Z.2.2 57 0)), (3, .ref (Z.2.2 56 0)), (2, .ref (Z.2.2 26 0)), (1, .ref (Z.2.2 0 0)), (0, .ref b)] → W p l e room_1 s m #[Value.ref b] below meth c H locs (cells + 3) (slots + 18) Q (F0 m 28 ls [])) (ix : Int32) (X M O : SS) (H : Heap) (locs : List Loc) (ls : Array Slot) (hk : f_law_C19 xs L ix X M O rc = some ()) (hP : wP Z (X, M, O) H) (hS : va_S (wA Z s.heap.size) s.heap H locs) (hl : lv_has ls 9 [(5, .int ix), (4, .ref (Z.2.2 57 0)), (3, .ref (Z.2.2 56 0)), (2, .ref (Z.2.2 26 0)), (1, .ref (Z.2.2 0 0)), (0, .ref b)]) : W p l e room_1 s m #[Value.ref b] below meth c H locs cells slots Q (F0 m 798 ls []) := by
  unfold f_law_C19 at hk
  refine lv_aload_n hx hb dL_law_798 rfl (lv_at hl 4 rfl) ?_
  refine lv_aload_n hx hb dL_law_799 rfl (lv_at hl 5 rfl) ?_
  refine lv_iload hx hb dL_law_800 (lv_at hl 0 rfl) ?_
  refine lv_iconst (v := (1 : Int32)) hx hb dL_law_802 (by decide) ?_
  refine lv_iadd hx hb dL_law_803 ?_
  obtain ⟨hg1, hk⟩ := gd_s hk
  refine va_sld hx hb hX hbl hbA hS hg1 dL_law_804 ?_
  refine lv_aload_n hx hb dL_law_805 rfl (lv_at hl 5 rfl) ?_
  refine lv_iload hx hb dL_law_806 (lv_at hl 0 rfl) ?_
  refine lv_iconst (v := (2 : Int32)) hx hb dL_law_808 (by decide) ?_
  refine lv_iadd hx hb dL_law_809 ?_
  obtain ⟨hg2, hk⟩ := gd_s hk
  refine va_sld hx hb hX hbl hbA hS hg2 dL_law_810 ?_
  refine lv_aload_n hx hb dL_law_811 rfl (lv_at hl 2 rfl) ?_
  obtain ⟨X4, O5, v3, hf6, hk⟩ := b2_s hk
  refine wc_iSX0 (rest := []) (As := [.ref (Z.2.2 0 0), .int (xs ((ix + (1 : Int32))).toNatClampNeg), .int (xs ((ix + (2 : Int32))).toNatClampNeg), .ref (Z.2.2 56 0)]) ⟨hx, hb, hml, hown, hts⟩ (fun sz => k_L_steps l hfl Z hZ X M O (xs ((ix + (1 : Int32))).toNatClampNeg) (xs ((ix + (2 : Int32))).toNatClampNeg) X4 O5 v3 hf6 sz) (cw_RL_228 (args := _) (s := s) hts (Nat.le_of_ble_eq_true rfl) (Nat.le_of_ble_eq_true rfl)) hE hP hK hS  rfl hl.1 rfl (Nat.le_of_ble_eq_true rfl) dL_law_812 ⟨by show _ ≤ 603072; omega, by show _ ≤ 7223402; omega⟩ (fun H locs hP hS => ?_)
  refine lv_istore (lv' := [(6, .int v3), (5, .int ix), (4, .ref (Z.2.2 57 0)), (3, .ref (Z.2.2 56 0)), (2, .ref (Z.2.2 26 0)), (1, .ref (Z.2.2 0 0)), (0, .ref b)]) hx hb dL_law_815 hl (by decide) rfl (fun ls hl => ?_)
  refine lv_aload_n hx hb dL_law_817 rfl (lv_at hl 4 rfl) ?_
  refine lv_aload_n hx hb dL_law_818 rfl (lv_at hl 6 rfl) ?_
  refine lv_iload hx hb dL_law_819 (lv_at hl 1 rfl) ?_
  refine lv_iconst (v := (1 : Int32)) hx hb dL_law_821 (by decide) ?_
  refine lv_iadd hx hb dL_law_822 ?_
  obtain ⟨hg7, hk⟩ := gd_s hk
  refine va_sld hx hb hX hbl hbA hS hg7 dL_law_823 ?_
  refine lv_aload_n hx hb dL_law_824 rfl (lv_at hl 6 rfl) ?_
  refine lv_iload hx hb dL_law_825 (lv_at hl 1 rfl) ?_
  refine lv_iconst (v := (2 : Int32)) hx hb dL_law_827 (by decide) ?_
  refine lv_iadd hx hb dL_law_828 ?_
  obtain ⟨hg8, hk⟩ := gd_s hk
  refine va_sld hx hb hX hbl hbA hS hg8 dL_law_829 ?_
  obtain ⟨M10, v9, hf11, hk⟩ := b1_s hk
  refine wc_iV0 (rest := []) (As := [.int (xs ((ix + (1 : Int32))).toNatClampNeg), .int (xs ((ix + (2 : Int32))).toNatClampNeg)]) ⟨hx, hb, hml, hown, hts⟩ (fun sz => k_X7_steps l hfl Z hZ X4 M O5 (xs ((ix + (1 : Int32))).toNatClampNeg) (xs ((ix + (2 : Int32))).toNatClampNeg) M10 v9 hf11 sz) (cw_RL_230 (args := _) (s := s) hts (Nat.le_of_ble_eq_true rfl) (Nat.le_of_ble_eq_true rfl)) hE hP hK hS (rv_26 hK hP (by decide)) rfl hl.1 rfl (Nat.le_of_ble_eq_true rfl) dL_law_830 ⟨by show _ ≤ 603072; omega, by show _ ≤ 7223402; omega⟩ (fun H locs hP hS => ?_)
  refine lv_istore (lv' := [(7, .int v9), (6, .int v3), (5, .int ix), (4, .ref (Z.2.2 57 0)), (3, .ref (Z.2.2 56 0)), (2, .ref (Z.2.2 26 0)), (1, .ref (Z.2.2 0 0)), (0, .ref b)]) hx hb dL_law_833 hl (by decide) rfl (fun ls hl => ?_)
  refine lv_goto (tgt := 1620) hx hb dL_law_835 (by decide) ?_
  refine lv_iinc (v := (ix + (4 : Int32))) (lv' := [(5, .int (ix + (4 : Int32))), (7, .int v9), (6, .int v3), (4, .ref (Z.2.2 57 0)), (3, .ref (Z.2.2 56 0)), (2, .ref (Z.2.2 26 0)), (1, .ref (Z.2.2 0 0)), (0, .ref b)]) hx hb dL_law_1620 hl (k := 2) rfl rfl (by decide) rfl (fun ls hl => ?_)
  refine lv_goto (tgt := 28) hx hb dL_law_1623 (by decide) ?_
  refine W.widen (k := cells + 3) (n := slots + 18) (by omega) (by omega) ?_
  exact hrc _ _ _ _ _ _ _ hk hP hS (lv_sub hl [0, 3, 4, 5, 6, 7] rfl)
set_option maxHeartbeats 4000000 in
set_option maxRecDepth 100000 in
theorem law_C20 (hfl : l.stackTraces = false) (hZ : wD Z) (hx : p.tables.exec = Jvm.exec) (hb : c.code = code) (hml : c.maxLocals = 9) (hown : s.vm.findClass RL = some m.cls) (hts : ∀ w ∈ lw_all, w.before #[Value.ref b] s = true) (hE : EV (wA Z s.heap.size) s) (hK : wK Z s) (hX : va_X b L xs s s.heap) (hbl : b < s.heap.size) (hbA : ¬ wA Z s.heap.size b) {rc : Int32 → SS → SS → SS → Option Unit} {cells slots : Nat} (hcc : cells + 3 ≤ 603072) (hss : slots + 18 ≤ 7223402) (hrc : ∀ (ix : Int32) (X M O : SS) (H : Heap) (locs : List Loc) (ls : Array Slot), rc ix X M O = some () → wP Z (X, M, O) H → va_S (wA Z s.heap.size) s.heap H locs → lv_has ls 9 [(5, .int ix), (4, .ref (Z.2.2 57 0)), (3, .ref (Z.2.2 56 0)), (2, .ref (Z.2.2 26 0)), (1, .ref (Z.2.2 0 0)), (0, .ref b)] → W p l e room_1 s m #[Value.ref b] below meth c H locs (cells + 3) (slots + 18) Q (F0 m 28 ls [])) (ix : Int32) (X M O : SS) (H : Heap) (locs : List Loc) (ls : Array Slot) (hk : f_law_C20 xs L ix X M O rc = some ()) (hP : wP Z (X, M, O) H) (hS : va_S (wA Z s.heap.size) s.heap H locs) (hl : lv_has ls 9 [(5, .int ix), (4, .ref (Z.2.2 57 0)), (3, .ref (Z.2.2 56 0)), (2, .ref (Z.2.2 26 0)), (1, .ref (Z.2.2 0 0)), (0, .ref b)]) : W p l e room_1 s m #[Value.ref b] below meth c H locs cells slots Q (F0 m 838 ls []) := by
  unfold f_law_C20 at hk
  refine lv_aload_n hx hb dL_law_838 rfl (lv_at hl 4 rfl) ?_
  refine lv_aload_n hx hb dL_law_839 rfl (lv_at hl 5 rfl) ?_
  refine lv_iload hx hb dL_law_840 (lv_at hl 0 rfl) ?_
  refine lv_iconst (v := (1 : Int32)) hx hb dL_law_842 (by decide) ?_
  refine lv_iadd hx hb dL_law_843 ?_
  obtain ⟨hg1, hk⟩ := gd_s hk
  refine va_sld hx hb hX hbl hbA hS hg1 dL_law_844 ?_
  refine lv_aload_n hx hb dL_law_845 rfl (lv_at hl 2 rfl) ?_
  obtain ⟨O3, v2, hf4, hk⟩ := b1_s hk
  refine wc_iSX0 (rest := []) (As := [.ref (Z.2.2 0 0), .int (xs ((ix + (1 : Int32))).toNatClampNeg), .ref (Z.2.2 56 0)]) ⟨hx, hb, hml, hown, hts⟩ (fun sz => k_L_hasBody l hfl Z hZ X M O (xs ((ix + (1 : Int32))).toNatClampNeg) O3 v2 hf4 sz) (cw_RL_231 (args := _) (s := s) hts (Nat.le_of_ble_eq_true rfl) (Nat.le_of_ble_eq_true rfl)) hE hP hK hS  rfl hl.1 rfl (Nat.le_of_ble_eq_true rfl) dL_law_846 ⟨by show _ ≤ 603072; omega, by show _ ≤ 7223402; omega⟩ (fun H locs hP hS => ?_)
  refine lv_istore (lv' := [(6, .int v2), (5, .int ix), (4, .ref (Z.2.2 57 0)), (3, .ref (Z.2.2 56 0)), (2, .ref (Z.2.2 26 0)), (1, .ref (Z.2.2 0 0)), (0, .ref b)]) hx hb dL_law_849 hl (by decide) rfl (fun ls hl => ?_)
  refine lv_aload_n hx hb dL_law_851 rfl (lv_at hl 4 rfl) ?_
  refine lv_aload_n hx hb dL_law_852 rfl (lv_at hl 6 rfl) ?_
  refine lv_iload hx hb dL_law_853 (lv_at hl 1 rfl) ?_
  refine lv_iconst (v := (1 : Int32)) hx hb dL_law_855 (by decide) ?_
  refine lv_iadd hx hb dL_law_856 ?_
  obtain ⟨hg5, hk⟩ := gd_s hk
  refine va_sld hx hb hX hbl hbA hS hg5 dL_law_857 ?_
  obtain ⟨M7, v6, hf8, hk⟩ := b1_s hk
  refine wc_iV0 (rest := []) (As := [.int (xs ((ix + (1 : Int32))).toNatClampNeg)]) ⟨hx, hb, hml, hown, hts⟩ (fun sz => k_X7_hasBody l hfl Z hZ X M O3 (xs ((ix + (1 : Int32))).toNatClampNeg) M7 v6 hf8 sz) (cw_RL_233 (args := _) (s := s) hts (Nat.le_of_ble_eq_true rfl) (Nat.le_of_ble_eq_true rfl)) hE hP hK hS (rv_26 hK hP (by decide)) rfl hl.1 rfl (Nat.le_of_ble_eq_true rfl) dL_law_858 ⟨by show _ ≤ 603072; omega, by show _ ≤ 7223402; omega⟩ (fun H locs hP hS => ?_)
  refine lv_istore (lv' := [(7, .int v6), (6, .int v2), (5, .int ix), (4, .ref (Z.2.2 57 0)), (3, .ref (Z.2.2 56 0)), (2, .ref (Z.2.2 26 0)), (1, .ref (Z.2.2 0 0)), (0, .ref b)]) hx hb dL_law_861 hl (by decide) rfl (fun ls hl => ?_)
  refine lv_goto (tgt := 1620) hx hb dL_law_863 (by decide) ?_
  refine lv_iinc (v := (ix + (4 : Int32))) (lv' := [(5, .int (ix + (4 : Int32))), (7, .int v6), (6, .int v2), (4, .ref (Z.2.2 57 0)), (3, .ref (Z.2.2 56 0)), (2, .ref (Z.2.2 26 0)), (1, .ref (Z.2.2 0 0)), (0, .ref b)]) hx hb dL_law_1620 hl (k := 2) rfl rfl (by decide) rfl (fun ls hl => ?_)
  refine lv_goto (tgt := 28) hx hb dL_law_1623 (by decide) ?_
  refine W.widen (k := cells + 3) (n := slots + 18) (by omega) (by omega) ?_
  exact hrc _ _ _ _ _ _ _ hk hP hS (lv_sub hl [0, 3, 4, 5, 6, 7] rfl)
set_option maxHeartbeats 4000000 in
set_option maxRecDepth 100000 in
theorem law_C21 (hfl : l.stackTraces = false) (hZ : wD Z) (hx : p.tables.exec = Jvm.exec) (hb : c.code = code) (hml : c.maxLocals = 9) (hown : s.vm.findClass RL = some m.cls) (hts : ∀ w ∈ lw_all, w.before #[Value.ref b] s = true) (hE : EV (wA Z s.heap.size) s) (hK : wK Z s) (hX : va_X b L xs s s.heap) (hbl : b < s.heap.size) (hbA : ¬ wA Z s.heap.size b) {rc : Int32 → SS → SS → SS → Option Unit} {cells slots : Nat} (hcc : cells + 3 ≤ 603072) (hss : slots + 18 ≤ 7223402) (hrc : ∀ (ix : Int32) (X M O : SS) (H : Heap) (locs : List Loc) (ls : Array Slot), rc ix X M O = some () → wP Z (X, M, O) H → va_S (wA Z s.heap.size) s.heap H locs → lv_has ls 9 [(5, .int ix), (4, .ref (Z.2.2 57 0)), (3, .ref (Z.2.2 56 0)), (2, .ref (Z.2.2 26 0)), (1, .ref (Z.2.2 0 0)), (0, .ref b)] → W p l e room_1 s m #[Value.ref b] below meth c H locs (cells + 3) (slots + 18) Q (F0 m 28 ls [])) (ix : Int32) (X M O : SS) (H : Heap) (locs : List Loc) (ls : Array Slot) (hk : f_law_C21 xs L ix X M O rc = some ()) (hP : wP Z (X, M, O) H) (hS : va_S (wA Z s.heap.size) s.heap H locs) (hl : lv_has ls 9 [(5, .int ix), (4, .ref (Z.2.2 57 0)), (3, .ref (Z.2.2 56 0)), (2, .ref (Z.2.2 26 0)), (1, .ref (Z.2.2 0 0)), (0, .ref b)]) : W p l e room_1 s m #[Value.ref b] below meth c H locs cells slots Q (F0 m 866 ls []) := by
  unfold f_law_C21 at hk
  refine lv_aload_n hx hb dL_law_866 rfl (lv_at hl 4 rfl) ?_
  refine lv_aload_n hx hb dL_law_867 rfl (lv_at hl 5 rfl) ?_
  refine lv_iload hx hb dL_law_868 (lv_at hl 0 rfl) ?_
  refine lv_iconst (v := (1 : Int32)) hx hb dL_law_870 (by decide) ?_
  refine lv_iadd hx hb dL_law_871 ?_
  obtain ⟨hg1, hk⟩ := gd_s hk
  refine va_sld hx hb hX hbl hbA hS hg1 dL_law_872 ?_
  refine lv_aload_n hx hb dL_law_873 rfl (lv_at hl 5 rfl) ?_
  refine lv_iload hx hb dL_law_874 (lv_at hl 0 rfl) ?_
  refine lv_iconst (v := (2 : Int32)) hx hb dL_law_876 (by decide) ?_
  refine lv_iadd hx hb dL_law_877 ?_
  obtain ⟨hg2, hk⟩ := gd_s hk
  refine va_sld hx hb hX hbl hbA hS hg2 dL_law_878 ?_
  refine lv_aload_n hx hb dL_law_879 rfl (lv_at hl 2 rfl) ?_
  obtain ⟨O4, v3, hf5, hk⟩ := b1_s hk
  refine wc_iSX0 (rest := []) (As := [.ref (Z.2.2 0 0), .int (xs ((ix + (1 : Int32))).toNatClampNeg), .int (xs ((ix + (2 : Int32))).toNatClampNeg), .ref (Z.2.2 56 0)]) ⟨hx, hb, hml, hown, hts⟩ (fun sz => k_L_letter l hfl Z hZ X M O (xs ((ix + (1 : Int32))).toNatClampNeg) (xs ((ix + (2 : Int32))).toNatClampNeg) O4 v3 hf5 sz) (cw_RL_234 (args := _) (s := s) hts (Nat.le_of_ble_eq_true rfl) (Nat.le_of_ble_eq_true rfl)) hE hP hK hS  rfl hl.1 rfl (Nat.le_of_ble_eq_true rfl) dL_law_880 ⟨by show _ ≤ 603072; omega, by show _ ≤ 7223402; omega⟩ (fun H locs hP hS => ?_)
  refine lv_istore (lv' := [(6, .int v3), (5, .int ix), (4, .ref (Z.2.2 57 0)), (3, .ref (Z.2.2 56 0)), (2, .ref (Z.2.2 26 0)), (1, .ref (Z.2.2 0 0)), (0, .ref b)]) hx hb dL_law_883 hl (by decide) rfl (fun ls hl => ?_)
  refine lv_aload_n hx hb dL_law_885 rfl (lv_at hl 4 rfl) ?_
  refine lv_aload_n hx hb dL_law_886 rfl (lv_at hl 6 rfl) ?_
  refine lv_iload hx hb dL_law_887 (lv_at hl 1 rfl) ?_
  refine lv_iconst (v := (1 : Int32)) hx hb dL_law_889 (by decide) ?_
  refine lv_iadd hx hb dL_law_890 ?_
  obtain ⟨hg6, hk⟩ := gd_s hk
  refine va_sld hx hb hX hbl hbA hS hg6 dL_law_891 ?_
  refine lv_aload_n hx hb dL_law_892 rfl (lv_at hl 6 rfl) ?_
  refine lv_iload hx hb dL_law_893 (lv_at hl 1 rfl) ?_
  refine lv_iconst (v := (2 : Int32)) hx hb dL_law_895 (by decide) ?_
  refine lv_iadd hx hb dL_law_896 ?_
  obtain ⟨hg7, hk⟩ := gd_s hk
  refine va_sld hx hb hX hbl hbA hS hg7 dL_law_897 ?_
  obtain ⟨M9, v8, hf10, hk⟩ := b1_s hk
  refine wc_iV0 (rest := []) (As := [.int (xs ((ix + (1 : Int32))).toNatClampNeg), .int (xs ((ix + (2 : Int32))).toNatClampNeg)]) ⟨hx, hb, hml, hown, hts⟩ (fun sz => k_X7_letter l hfl Z hZ X M O4 (xs ((ix + (1 : Int32))).toNatClampNeg) (xs ((ix + (2 : Int32))).toNatClampNeg) M9 v8 hf10 sz) (cw_RL_236 (args := _) (s := s) hts (Nat.le_of_ble_eq_true rfl) (Nat.le_of_ble_eq_true rfl)) hE hP hK hS (rv_26 hK hP (by decide)) rfl hl.1 rfl (Nat.le_of_ble_eq_true rfl) dL_law_898 ⟨by show _ ≤ 603072; omega, by show _ ≤ 7223402; omega⟩ (fun H locs hP hS => ?_)
  refine lv_istore (lv' := [(7, .int v8), (6, .int v3), (5, .int ix), (4, .ref (Z.2.2 57 0)), (3, .ref (Z.2.2 56 0)), (2, .ref (Z.2.2 26 0)), (1, .ref (Z.2.2 0 0)), (0, .ref b)]) hx hb dL_law_901 hl (by decide) rfl (fun ls hl => ?_)
  refine lv_goto (tgt := 1620) hx hb dL_law_903 (by decide) ?_
  refine lv_iinc (v := (ix + (4 : Int32))) (lv' := [(5, .int (ix + (4 : Int32))), (7, .int v8), (6, .int v3), (4, .ref (Z.2.2 57 0)), (3, .ref (Z.2.2 56 0)), (2, .ref (Z.2.2 26 0)), (1, .ref (Z.2.2 0 0)), (0, .ref b)]) hx hb dL_law_1620 hl (k := 2) rfl rfl (by decide) rfl (fun ls hl => ?_)
  refine lv_goto (tgt := 28) hx hb dL_law_1623 (by decide) ?_
  refine W.widen (k := cells + 3) (n := slots + 18) (by omega) (by omega) ?_
  exact hrc _ _ _ _ _ _ _ hk hP hS (lv_sub hl [0, 3, 4, 5, 6, 7] rfl)
set_option maxHeartbeats 4000000 in
set_option maxRecDepth 100000 in
theorem law_C22 (hfl : l.stackTraces = false) (hZ : wD Z) (hx : p.tables.exec = Jvm.exec) (hb : c.code = code) (hml : c.maxLocals = 9) (hown : s.vm.findClass RL = some m.cls) (hts : ∀ w ∈ lw_all, w.before #[Value.ref b] s = true) (hE : EV (wA Z s.heap.size) s) (hK : wK Z s) (hX : va_X b L xs s s.heap) (hbl : b < s.heap.size) (hbA : ¬ wA Z s.heap.size b) {rc : Int32 → SS → SS → SS → Option Unit} {cells slots : Nat} (hcc : cells + 3 ≤ 603072) (hss : slots + 18 ≤ 7223402) (hrc : ∀ (ix : Int32) (X M O : SS) (H : Heap) (locs : List Loc) (ls : Array Slot), rc ix X M O = some () → wP Z (X, M, O) H → va_S (wA Z s.heap.size) s.heap H locs → lv_has ls 9 [(5, .int ix), (4, .ref (Z.2.2 57 0)), (3, .ref (Z.2.2 56 0)), (2, .ref (Z.2.2 26 0)), (1, .ref (Z.2.2 0 0)), (0, .ref b)] → W p l e room_1 s m #[Value.ref b] below meth c H locs (cells + 3) (slots + 18) Q (F0 m 28 ls [])) (ix : Int32) (X M O : SS) (H : Heap) (locs : List Loc) (ls : Array Slot) (hk : f_law_C22 xs L ix X M O rc = some ()) (hP : wP Z (X, M, O) H) (hS : va_S (wA Z s.heap.size) s.heap H locs) (hl : lv_has ls 9 [(5, .int ix), (4, .ref (Z.2.2 57 0)), (3, .ref (Z.2.2 56 0)), (2, .ref (Z.2.2 26 0)), (1, .ref (Z.2.2 0 0)), (0, .ref b)]) : W p l e room_1 s m #[Value.ref b] below meth c H locs cells slots Q (F0 m 906 ls []) := by
  unfold f_law_C22 at hk
  refine lv_aload_n hx hb dL_law_906 rfl (lv_at hl 4 rfl) ?_
  refine lv_aload_n hx hb dL_law_907 rfl (lv_at hl 5 rfl) ?_
  refine lv_iload hx hb dL_law_908 (lv_at hl 0 rfl) ?_
  refine lv_iconst (v := (1 : Int32)) hx hb dL_law_910 (by decide) ?_
  refine lv_iadd hx hb dL_law_911 ?_
  obtain ⟨hg1, hk⟩ := gd_s hk
  refine va_sld hx hb hX hbl hbA hS hg1 dL_law_912 ?_
  refine lv_aload_n hx hb dL_law_913 rfl (lv_at hl 2 rfl) ?_
  obtain ⟨X3, O4, v2, hf5, hk⟩ := b2_s hk
  refine wc_iSX0 (rest := []) (As := [.ref (Z.2.2 0 0), .int (xs ((ix + (1 : Int32))).toNatClampNeg), .ref (Z.2.2 56 0)]) ⟨hx, hb, hml, hown, hts⟩ (fun sz => k_L_drop l hfl Z hZ X M O (xs ((ix + (1 : Int32))).toNatClampNeg) X3 O4 v2 hf5 sz) (cw_RL_237 (args := _) (s := s) hts (Nat.le_of_ble_eq_true rfl) (Nat.le_of_ble_eq_true rfl)) hE hP hK hS  rfl hl.1 rfl (Nat.le_of_ble_eq_true rfl) dL_law_914 ⟨by show _ ≤ 603072; omega, by show _ ≤ 7223402; omega⟩ (fun H locs hP hS => ?_)
  refine lv_istore (lv' := [(6, .int v2), (5, .int ix), (4, .ref (Z.2.2 57 0)), (3, .ref (Z.2.2 56 0)), (2, .ref (Z.2.2 26 0)), (1, .ref (Z.2.2 0 0)), (0, .ref b)]) hx hb dL_law_917 hl (by decide) rfl (fun ls hl => ?_)
  refine lv_aload_n hx hb dL_law_919 rfl (lv_at hl 4 rfl) ?_
  refine lv_aload_n hx hb dL_law_920 rfl (lv_at hl 6 rfl) ?_
  refine lv_iload hx hb dL_law_921 (lv_at hl 1 rfl) ?_
  refine lv_iconst (v := (1 : Int32)) hx hb dL_law_923 (by decide) ?_
  refine lv_iadd hx hb dL_law_924 ?_
  obtain ⟨hg6, hk⟩ := gd_s hk
  refine va_sld hx hb hX hbl hbA hS hg6 dL_law_925 ?_
  obtain ⟨M8, v7, hf9, hk⟩ := b1_s hk
  refine wc_iV0 (rest := []) (As := [.int (xs ((ix + (1 : Int32))).toNatClampNeg)]) ⟨hx, hb, hml, hown, hts⟩ (fun sz => k_X7_drop l hfl Z hZ X3 M O4 (xs ((ix + (1 : Int32))).toNatClampNeg) M8 v7 hf9 sz) (cw_RL_239 (args := _) (s := s) hts (Nat.le_of_ble_eq_true rfl) (Nat.le_of_ble_eq_true rfl)) hE hP hK hS (rv_26 hK hP (by decide)) rfl hl.1 rfl (Nat.le_of_ble_eq_true rfl) dL_law_926 ⟨by show _ ≤ 603072; omega, by show _ ≤ 7223402; omega⟩ (fun H locs hP hS => ?_)
  refine lv_istore (lv' := [(7, .int v7), (6, .int v2), (5, .int ix), (4, .ref (Z.2.2 57 0)), (3, .ref (Z.2.2 56 0)), (2, .ref (Z.2.2 26 0)), (1, .ref (Z.2.2 0 0)), (0, .ref b)]) hx hb dL_law_929 hl (by decide) rfl (fun ls hl => ?_)
  refine lv_goto (tgt := 1620) hx hb dL_law_931 (by decide) ?_
  refine lv_iinc (v := (ix + (4 : Int32))) (lv' := [(5, .int (ix + (4 : Int32))), (7, .int v7), (6, .int v2), (4, .ref (Z.2.2 57 0)), (3, .ref (Z.2.2 56 0)), (2, .ref (Z.2.2 26 0)), (1, .ref (Z.2.2 0 0)), (0, .ref b)]) hx hb dL_law_1620 hl (k := 2) rfl rfl (by decide) rfl (fun ls hl => ?_)
  refine lv_goto (tgt := 28) hx hb dL_law_1623 (by decide) ?_
  refine W.widen (k := cells + 3) (n := slots + 18) (by omega) (by omega) ?_
  exact hrc _ _ _ _ _ _ _ hk hP hS (lv_sub hl [0, 3, 4, 5, 6, 7] rfl)
set_option maxHeartbeats 4000000 in
set_option maxRecDepth 100000 in
theorem law_C23 (hfl : l.stackTraces = false) (hZ : wD Z) (hx : p.tables.exec = Jvm.exec) (hb : c.code = code) (hml : c.maxLocals = 9) (hown : s.vm.findClass RL = some m.cls) (hts : ∀ w ∈ lw_all, w.before #[Value.ref b] s = true) (hE : EV (wA Z s.heap.size) s) (hK : wK Z s) (hX : va_X b L xs s s.heap) (hbl : b < s.heap.size) (hbA : ¬ wA Z s.heap.size b) {rc : Int32 → SS → SS → SS → Option Unit} {cells slots : Nat} (hcc : cells + 3 ≤ 603072) (hss : slots + 18 ≤ 7223402) (hrc : ∀ (ix : Int32) (X M O : SS) (H : Heap) (locs : List Loc) (ls : Array Slot), rc ix X M O = some () → wP Z (X, M, O) H → va_S (wA Z s.heap.size) s.heap H locs → lv_has ls 9 [(5, .int ix), (4, .ref (Z.2.2 57 0)), (3, .ref (Z.2.2 56 0)), (2, .ref (Z.2.2 26 0)), (1, .ref (Z.2.2 0 0)), (0, .ref b)] → W p l e room_1 s m #[Value.ref b] below meth c H locs (cells + 3) (slots + 18) Q (F0 m 28 ls [])) (ix : Int32) (X M O : SS) (H : Heap) (locs : List Loc) (ls : Array Slot) (hk : f_law_C23 xs L ix X M O rc = some ()) (hP : wP Z (X, M, O) H) (hS : va_S (wA Z s.heap.size) s.heap H locs) (hl : lv_has ls 9 [(5, .int ix), (4, .ref (Z.2.2 57 0)), (3, .ref (Z.2.2 56 0)), (2, .ref (Z.2.2 26 0)), (1, .ref (Z.2.2 0 0)), (0, .ref b)]) : W p l e room_1 s m #[Value.ref b] below meth c H locs cells slots Q (F0 m 934 ls []) := by
  unfold f_law_C23 at hk
  refine lv_aload_n hx hb dL_law_934 rfl (lv_at hl 4 rfl) ?_
  refine lv_aload_n hx hb dL_law_935 rfl (lv_at hl 5 rfl) ?_
  refine lv_iload hx hb dL_law_936 (lv_at hl 0 rfl) ?_
  refine lv_iconst (v := (1 : Int32)) hx hb dL_law_938 (by decide) ?_
  refine lv_iadd hx hb dL_law_939 ?_
  obtain ⟨hg1, hk⟩ := gd_s hk
  refine va_sld hx hb hX hbl hbA hS hg1 dL_law_940 ?_
  refine lv_aload_n hx hb dL_law_941 rfl (lv_at hl 2 rfl) ?_
  obtain ⟨X3, O4, v2, hf5, hk⟩ := b2_s hk
  refine wc_iSX0 (rest := []) (As := [.ref (Z.2.2 0 0), .int (xs ((ix + (1 : Int32))).toNatClampNeg), .ref (Z.2.2 56 0)]) ⟨hx, hb, hml, hown, hts⟩ (fun sz => k_L_capacity l hfl Z hZ X M O (xs ((ix + (1 : Int32))).toNatClampNeg) X3 O4 v2 hf5 sz) (cw_RL_240 (args := _) (s := s) hts (Nat.le_of_ble_eq_true rfl) (Nat.le_of_ble_eq_true rfl)) hE hP hK hS  rfl hl.1 rfl (Nat.le_of_ble_eq_true rfl) dL_law_942 ⟨by show _ ≤ 603072; omega, by show _ ≤ 7223402; omega⟩ (fun H locs hP hS => ?_)
  refine lv_istore (lv' := [(6, .int v2), (5, .int ix), (4, .ref (Z.2.2 57 0)), (3, .ref (Z.2.2 56 0)), (2, .ref (Z.2.2 26 0)), (1, .ref (Z.2.2 0 0)), (0, .ref b)]) hx hb dL_law_945 hl (by decide) rfl (fun ls hl => ?_)
  refine lv_aload_n hx hb dL_law_947 rfl (lv_at hl 4 rfl) ?_
  refine lv_aload_n hx hb dL_law_948 rfl (lv_at hl 6 rfl) ?_
  refine lv_iload hx hb dL_law_949 (lv_at hl 1 rfl) ?_
  refine lv_iconst (v := (1 : Int32)) hx hb dL_law_951 (by decide) ?_
  refine lv_iadd hx hb dL_law_952 ?_
  obtain ⟨hg6, hk⟩ := gd_s hk
  refine va_sld hx hb hX hbl hbA hS hg6 dL_law_953 ?_
  obtain ⟨M8, v7, hf9, hk⟩ := b1_s hk
  refine wc_iV0 (rest := []) (As := [.int (xs ((ix + (1 : Int32))).toNatClampNeg)]) ⟨hx, hb, hml, hown, hts⟩ (fun sz => k_X7_capacity l hfl Z hZ X3 M O4 (xs ((ix + (1 : Int32))).toNatClampNeg) M8 v7 hf9 sz) (cw_RL_242 (args := _) (s := s) hts (Nat.le_of_ble_eq_true rfl) (Nat.le_of_ble_eq_true rfl)) hE hP hK hS (rv_26 hK hP (by decide)) rfl hl.1 rfl (Nat.le_of_ble_eq_true rfl) dL_law_954 ⟨by show _ ≤ 603072; omega, by show _ ≤ 7223402; omega⟩ (fun H locs hP hS => ?_)
  refine lv_istore (lv' := [(7, .int v7), (6, .int v2), (5, .int ix), (4, .ref (Z.2.2 57 0)), (3, .ref (Z.2.2 56 0)), (2, .ref (Z.2.2 26 0)), (1, .ref (Z.2.2 0 0)), (0, .ref b)]) hx hb dL_law_957 hl (by decide) rfl (fun ls hl => ?_)
  refine lv_goto (tgt := 1620) hx hb dL_law_959 (by decide) ?_
  refine lv_iinc (v := (ix + (4 : Int32))) (lv' := [(5, .int (ix + (4 : Int32))), (7, .int v7), (6, .int v2), (4, .ref (Z.2.2 57 0)), (3, .ref (Z.2.2 56 0)), (2, .ref (Z.2.2 26 0)), (1, .ref (Z.2.2 0 0)), (0, .ref b)]) hx hb dL_law_1620 hl (k := 2) rfl rfl (by decide) rfl (fun ls hl => ?_)
  refine lv_goto (tgt := 28) hx hb dL_law_1623 (by decide) ?_
  refine W.widen (k := cells + 3) (n := slots + 18) (by omega) (by omega) ?_
  exact hrc _ _ _ _ _ _ _ hk hP hS (lv_sub hl [0, 3, 4, 5, 6, 7] rfl)
set_option maxHeartbeats 4000000 in
set_option maxRecDepth 100000 in
theorem law_C24 (hfl : l.stackTraces = false) (hZ : wD Z) (hx : p.tables.exec = Jvm.exec) (hb : c.code = code) (hml : c.maxLocals = 9) (hown : s.vm.findClass RL = some m.cls) (hts : ∀ w ∈ lw_all, w.before #[Value.ref b] s = true) (hE : EV (wA Z s.heap.size) s) (hK : wK Z s) (hX : va_X b L xs s s.heap) (hbl : b < s.heap.size) (hbA : ¬ wA Z s.heap.size b) {rc : Int32 → SS → SS → SS → Option Unit} {cells slots : Nat} (hcc : cells + 3 ≤ 603072) (hss : slots + 18 ≤ 7223402) (hrc : ∀ (ix : Int32) (X M O : SS) (H : Heap) (locs : List Loc) (ls : Array Slot), rc ix X M O = some () → wP Z (X, M, O) H → va_S (wA Z s.heap.size) s.heap H locs → lv_has ls 9 [(5, .int ix), (4, .ref (Z.2.2 57 0)), (3, .ref (Z.2.2 56 0)), (2, .ref (Z.2.2 26 0)), (1, .ref (Z.2.2 0 0)), (0, .ref b)] → W p l e room_1 s m #[Value.ref b] below meth c H locs (cells + 3) (slots + 18) Q (F0 m 28 ls [])) (ix : Int32) (X M O : SS) (H : Heap) (locs : List Loc) (ls : Array Slot) (hk : f_law_C24 xs L ix X M O rc = some ()) (hP : wP Z (X, M, O) H) (hS : va_S (wA Z s.heap.size) s.heap H locs) (hl : lv_has ls 9 [(5, .int ix), (4, .ref (Z.2.2 57 0)), (3, .ref (Z.2.2 56 0)), (2, .ref (Z.2.2 26 0)), (1, .ref (Z.2.2 0 0)), (0, .ref b)]) : W p l e room_1 s m #[Value.ref b] below meth c H locs cells slots Q (F0 m 962 ls []) := by
  unfold f_law_C24 at hk
  refine lv_aload_n hx hb dL_law_962 rfl (lv_at hl 4 rfl) ?_
  obtain ⟨v1, hf2, hk⟩ := b0_s hk
  refine wc_iV0 (rest := []) (As := []) ⟨hx, hb, hml, hown, hts⟩ (fun sz => k_X6_bodies l hfl Z hZ X M O v1 hf2 sz) (cw_RL_243 (args := _) (s := s) hts (Nat.le_of_ble_eq_true rfl) (Nat.le_of_ble_eq_true rfl)) hE hP hK hS (rv_0 hK hP (by decide)) rfl hl.1 rfl (Nat.le_of_ble_eq_true rfl) dL_law_963 ⟨by show _ ≤ 603072; omega, by show _ ≤ 7223402; omega⟩ (fun H locs hP hS => ?_)
  refine lv_pop hx hb dL_law_966 rfl ?_
  refine lv_aload_n hx hb dL_law_967 rfl (lv_at hl 3 rfl) ?_
  obtain ⟨M4, v3, hf5, hk⟩ := b1_s hk
  refine wc_iV0 (rest := []) (As := []) ⟨hx, hb, hml, hown, hts⟩ (fun sz => k_X7_bodies l hfl Z hZ X M O M4 v3 hf5 sz) (cw_RL_246 (args := _) (s := s) hts (Nat.le_of_ble_eq_true rfl) (Nat.le_of_ble_eq_true rfl)) hE hP hK hS (rv_26 hK hP (by decide)) rfl hl.1 rfl (Nat.le_of_ble_eq_true rfl) dL_law_968 ⟨by show _ ≤ 603072; omega, by show _ ≤ 7223402; omega⟩ (fun H locs hP hS => ?_)
  refine lv_pop hx hb dL_law_971 rfl ?_
  refine lv_goto (tgt := 1620) hx hb dL_law_972 (by decide) ?_
  refine lv_iinc (v := (ix + (4 : Int32))) (lv' := [(5, .int (ix + (4 : Int32))), (4, .ref (Z.2.2 57 0)), (3, .ref (Z.2.2 56 0)), (2, .ref (Z.2.2 26 0)), (1, .ref (Z.2.2 0 0)), (0, .ref b)]) hx hb dL_law_1620 hl (k := 0) rfl rfl (by decide) rfl (fun ls hl => ?_)
  refine lv_goto (tgt := 28) hx hb dL_law_1623 (by decide) ?_
  refine W.widen (k := cells + 3) (n := slots + 18) (by omega) (by omega) ?_
  exact hrc _ _ _ _ _ _ _ hk hP hS (lv_sub hl [0, 1, 2, 3, 4, 5] rfl)
set_option maxHeartbeats 4000000 in
set_option maxRecDepth 100000 in
theorem law_C25 (hfl : l.stackTraces = false) (hZ : wD Z) (hx : p.tables.exec = Jvm.exec) (hb : c.code = code) (hml : c.maxLocals = 9) (hown : s.vm.findClass RL = some m.cls) (hts : ∀ w ∈ lw_all, w.before #[Value.ref b] s = true) (hE : EV (wA Z s.heap.size) s) (hK : wK Z s) (hX : va_X b L xs s s.heap) (hbl : b < s.heap.size) (hbA : ¬ wA Z s.heap.size b) {rc : Int32 → SS → SS → SS → Option Unit} {cells slots : Nat} (hcc : cells + 3 ≤ 603072) (hss : slots + 18 ≤ 7223402) (hrc : ∀ (ix : Int32) (X M O : SS) (H : Heap) (locs : List Loc) (ls : Array Slot), rc ix X M O = some () → wP Z (X, M, O) H → va_S (wA Z s.heap.size) s.heap H locs → lv_has ls 9 [(5, .int ix), (4, .ref (Z.2.2 57 0)), (3, .ref (Z.2.2 56 0)), (2, .ref (Z.2.2 26 0)), (1, .ref (Z.2.2 0 0)), (0, .ref b)] → W p l e room_1 s m #[Value.ref b] below meth c H locs (cells + 3) (slots + 18) Q (F0 m 28 ls [])) (ix : Int32) (X M O : SS) (H : Heap) (locs : List Loc) (ls : Array Slot) (hk : f_law_C25 xs L ix X M O rc = some ()) (hP : wP Z (X, M, O) H) (hS : va_S (wA Z s.heap.size) s.heap H locs) (hl : lv_has ls 9 [(5, .int ix), (4, .ref (Z.2.2 57 0)), (3, .ref (Z.2.2 56 0)), (2, .ref (Z.2.2 26 0)), (1, .ref (Z.2.2 0 0)), (0, .ref b)]) : W p l e room_1 s m #[Value.ref b] below meth c H locs cells slots Q (F0 m 975 ls []) := by
  unfold f_law_C25 at hk
  refine lv_aload_n hx hb dL_law_975 rfl (lv_at hl 4 rfl) ?_
  refine lv_aload_n hx hb dL_law_976 rfl (lv_at hl 5 rfl) ?_
  refine lv_iload hx hb dL_law_977 (lv_at hl 0 rfl) ?_
  refine lv_iconst (v := (1 : Int32)) hx hb dL_law_979 (by decide) ?_
  refine lv_iadd hx hb dL_law_980 ?_
  obtain ⟨hg1, hk⟩ := gd_s hk
  refine va_sld hx hb hX hbl hbA hS hg1 dL_law_981 ?_
  refine lv_aload_n hx hb dL_law_982 rfl (lv_at hl 5 rfl) ?_
  refine lv_iload hx hb dL_law_983 (lv_at hl 0 rfl) ?_
  refine lv_iconst (v := (2 : Int32)) hx hb dL_law_985 (by decide) ?_
  refine lv_iadd hx hb dL_law_986 ?_
  obtain ⟨hg2, hk⟩ := gd_s hk
  refine va_sld hx hb hX hbl hbA hS hg2 dL_law_987 ?_
  refine lv_aload_n hx hb dL_law_988 rfl (lv_at hl 2 rfl) ?_
  obtain ⟨X4, O5, v3, hf6, hk⟩ := b2_s hk
  refine wc_iSX0 (rest := []) (As := [.ref (Z.2.2 0 0), .int (xs ((ix + (1 : Int32))).toNatClampNeg), .int (xs ((ix + (2 : Int32))).toNatClampNeg), .ref (Z.2.2 56 0)]) ⟨hx, hb, hml, hown, hts⟩ (fun sz => k_L_read l hfl Z hZ X M O (xs ((ix + (1 : Int32))).toNatClampNeg) (xs ((ix + (2 : Int32))).toNatClampNeg) X4 O5 v3 hf6 sz) (cw_RL_247 (args := _) (s := s) hts (Nat.le_of_ble_eq_true rfl) (Nat.le_of_ble_eq_true rfl)) hE hP hK hS  rfl hl.1 rfl (Nat.le_of_ble_eq_true rfl) dL_law_989 ⟨by show _ ≤ 603072; omega, by show _ ≤ 7223402; omega⟩ (fun H locs hP hS => ?_)
  refine lv_istore (lv' := [(6, .int v3), (5, .int ix), (4, .ref (Z.2.2 57 0)), (3, .ref (Z.2.2 56 0)), (2, .ref (Z.2.2 26 0)), (1, .ref (Z.2.2 0 0)), (0, .ref b)]) hx hb dL_law_992 hl (by decide) rfl (fun ls hl => ?_)
  refine lv_aload_n hx hb dL_law_994 rfl (lv_at hl 4 rfl) ?_
  refine lv_aload_n hx hb dL_law_995 rfl (lv_at hl 6 rfl) ?_
  refine lv_iload hx hb dL_law_996 (lv_at hl 1 rfl) ?_
  refine lv_iconst (v := (1 : Int32)) hx hb dL_law_998 (by decide) ?_
  refine lv_iadd hx hb dL_law_999 ?_
  obtain ⟨hg7, hk⟩ := gd_s hk
  refine va_sld hx hb hX hbl hbA hS hg7 dL_law_1000 ?_
  refine lv_aload_n hx hb dL_law_1001 rfl (lv_at hl 6 rfl) ?_
  refine lv_iload hx hb dL_law_1002 (lv_at hl 1 rfl) ?_
  refine lv_iconst (v := (2 : Int32)) hx hb dL_law_1004 (by decide) ?_
  refine lv_iadd hx hb dL_law_1005 ?_
  obtain ⟨hg8, hk⟩ := gd_s hk
  refine va_sld hx hb hX hbl hbA hS hg8 dL_law_1006 ?_
  obtain ⟨M10, v9, hf11, hk⟩ := b1_s hk
  refine wc_iV0 (rest := []) (As := [.int (xs ((ix + (1 : Int32))).toNatClampNeg), .int (xs ((ix + (2 : Int32))).toNatClampNeg)]) ⟨hx, hb, hml, hown, hts⟩ (fun sz => k_X7_read l hfl Z hZ X4 M O5 (xs ((ix + (1 : Int32))).toNatClampNeg) (xs ((ix + (2 : Int32))).toNatClampNeg) M10 v9 hf11 sz) (cw_RL_249 (args := _) (s := s) hts (Nat.le_of_ble_eq_true rfl) (Nat.le_of_ble_eq_true rfl)) hE hP hK hS (rv_26 hK hP (by decide)) rfl hl.1 rfl (Nat.le_of_ble_eq_true rfl) dL_law_1007 ⟨by show _ ≤ 603072; omega, by show _ ≤ 7223402; omega⟩ (fun H locs hP hS => ?_)
  refine lv_istore (lv' := [(7, .int v9), (6, .int v3), (5, .int ix), (4, .ref (Z.2.2 57 0)), (3, .ref (Z.2.2 56 0)), (2, .ref (Z.2.2 26 0)), (1, .ref (Z.2.2 0 0)), (0, .ref b)]) hx hb dL_law_1010 hl (by decide) rfl (fun ls hl => ?_)
  refine lv_goto (tgt := 1620) hx hb dL_law_1012 (by decide) ?_
  refine lv_iinc (v := (ix + (4 : Int32))) (lv' := [(5, .int (ix + (4 : Int32))), (7, .int v9), (6, .int v3), (4, .ref (Z.2.2 57 0)), (3, .ref (Z.2.2 56 0)), (2, .ref (Z.2.2 26 0)), (1, .ref (Z.2.2 0 0)), (0, .ref b)]) hx hb dL_law_1620 hl (k := 2) rfl rfl (by decide) rfl (fun ls hl => ?_)
  refine lv_goto (tgt := 28) hx hb dL_law_1623 (by decide) ?_
  refine W.widen (k := cells + 3) (n := slots + 18) (by omega) (by omega) ?_
  exact hrc _ _ _ _ _ _ _ hk hP hS (lv_sub hl [0, 3, 4, 5, 6, 7] rfl)
set_option maxHeartbeats 4000000 in
set_option maxRecDepth 100000 in
theorem law_C26 (hfl : l.stackTraces = false) (hZ : wD Z) (hx : p.tables.exec = Jvm.exec) (hb : c.code = code) (hml : c.maxLocals = 9) (hown : s.vm.findClass RL = some m.cls) (hts : ∀ w ∈ lw_all, w.before #[Value.ref b] s = true) (hE : EV (wA Z s.heap.size) s) (hK : wK Z s) (hX : va_X b L xs s s.heap) (hbl : b < s.heap.size) (hbA : ¬ wA Z s.heap.size b) {rc : Int32 → SS → SS → SS → Option Unit} {cells slots : Nat} (hcc : cells + 3 ≤ 603072) (hss : slots + 18 ≤ 7223402) (hrc : ∀ (ix : Int32) (X M O : SS) (H : Heap) (locs : List Loc) (ls : Array Slot), rc ix X M O = some () → wP Z (X, M, O) H → va_S (wA Z s.heap.size) s.heap H locs → lv_has ls 9 [(5, .int ix), (4, .ref (Z.2.2 57 0)), (3, .ref (Z.2.2 56 0)), (2, .ref (Z.2.2 26 0)), (1, .ref (Z.2.2 0 0)), (0, .ref b)] → W p l e room_1 s m #[Value.ref b] below meth c H locs (cells + 3) (slots + 18) Q (F0 m 28 ls [])) (ix : Int32) (X M O : SS) (H : Heap) (locs : List Loc) (ls : Array Slot) (hk : f_law_C26 xs L ix X M O rc = some ()) (hP : wP Z (X, M, O) H) (hS : va_S (wA Z s.heap.size) s.heap H locs) (hl : lv_has ls 9 [(5, .int ix), (4, .ref (Z.2.2 57 0)), (3, .ref (Z.2.2 56 0)), (2, .ref (Z.2.2 26 0)), (1, .ref (Z.2.2 0 0)), (0, .ref b)]) : W p l e room_1 s m #[Value.ref b] below meth c H locs cells slots Q (F0 m 1015 ls []) := by
  unfold f_law_C26 at hk
  refine lv_aload_n hx hb dL_law_1015 rfl (lv_at hl 4 rfl) ?_
  refine lv_aload_n hx hb dL_law_1016 rfl (lv_at hl 5 rfl) ?_
  refine lv_iload hx hb dL_law_1017 (lv_at hl 0 rfl) ?_
  refine lv_iconst (v := (1 : Int32)) hx hb dL_law_1019 (by decide) ?_
  refine lv_iadd hx hb dL_law_1020 ?_
  obtain ⟨hg1, hk⟩ := gd_s hk
  refine va_sld hx hb hX hbl hbA hS hg1 dL_law_1021 ?_
  refine lv_aload_n hx hb dL_law_1022 rfl (lv_at hl 5 rfl) ?_
  refine lv_iload hx hb dL_law_1023 (lv_at hl 0 rfl) ?_
  refine lv_iconst (v := (2 : Int32)) hx hb dL_law_1025 (by decide) ?_
  refine lv_iadd hx hb dL_law_1026 ?_
  obtain ⟨hg2, hk⟩ := gd_s hk
  refine va_sld hx hb hX hbl hbA hS hg2 dL_law_1027 ?_
  refine lv_aload_n hx hb dL_law_1028 rfl (lv_at hl 2 rfl) ?_
  obtain ⟨O4, v3, hf5, hk⟩ := b1_s hk
  refine wc_iSX0 (rest := []) (As := [.ref (Z.2.2 0 0), .int (xs ((ix + (1 : Int32))).toNatClampNeg), .int (xs ((ix + (2 : Int32))).toNatClampNeg), .ref (Z.2.2 56 0)]) ⟨hx, hb, hml, hown, hts⟩ (fun sz => k_L_copy l hfl Z hZ X M O (xs ((ix + (1 : Int32))).toNatClampNeg) (xs ((ix + (2 : Int32))).toNatClampNeg) O4 v3 hf5 sz) (cw_RL_250 (args := _) (s := s) hts (Nat.le_of_ble_eq_true rfl) (Nat.le_of_ble_eq_true rfl)) hE hP hK hS  rfl hl.1 rfl (Nat.le_of_ble_eq_true rfl) dL_law_1029 ⟨by show _ ≤ 603072; omega, by show _ ≤ 7223402; omega⟩ (fun H locs hP hS => ?_)
  refine lv_istore (lv' := [(6, .int v3), (5, .int ix), (4, .ref (Z.2.2 57 0)), (3, .ref (Z.2.2 56 0)), (2, .ref (Z.2.2 26 0)), (1, .ref (Z.2.2 0 0)), (0, .ref b)]) hx hb dL_law_1032 hl (by decide) rfl (fun ls hl => ?_)
  refine lv_aload_n hx hb dL_law_1034 rfl (lv_at hl 4 rfl) ?_
  refine lv_aload_n hx hb dL_law_1035 rfl (lv_at hl 6 rfl) ?_
  refine lv_iload hx hb dL_law_1036 (lv_at hl 1 rfl) ?_
  refine lv_iconst (v := (1 : Int32)) hx hb dL_law_1038 (by decide) ?_
  refine lv_iadd hx hb dL_law_1039 ?_
  obtain ⟨hg6, hk⟩ := gd_s hk
  refine va_sld hx hb hX hbl hbA hS hg6 dL_law_1040 ?_
  refine lv_aload_n hx hb dL_law_1041 rfl (lv_at hl 6 rfl) ?_
  refine lv_iload hx hb dL_law_1042 (lv_at hl 1 rfl) ?_
  refine lv_iconst (v := (2 : Int32)) hx hb dL_law_1044 (by decide) ?_
  refine lv_iadd hx hb dL_law_1045 ?_
  obtain ⟨hg7, hk⟩ := gd_s hk
  refine va_sld hx hb hX hbl hbA hS hg7 dL_law_1046 ?_
  obtain ⟨M9, v8, hf10, hk⟩ := b1_s hk
  refine wc_iV0 (rest := []) (As := [.int (xs ((ix + (1 : Int32))).toNatClampNeg), .int (xs ((ix + (2 : Int32))).toNatClampNeg)]) ⟨hx, hb, hml, hown, hts⟩ (fun sz => k_X7_copy l hfl Z hZ X M O4 (xs ((ix + (1 : Int32))).toNatClampNeg) (xs ((ix + (2 : Int32))).toNatClampNeg) M9 v8 hf10 sz) (cw_RL_252 (args := _) (s := s) hts (Nat.le_of_ble_eq_true rfl) (Nat.le_of_ble_eq_true rfl)) hE hP hK hS (rv_26 hK hP (by decide)) rfl hl.1 rfl (Nat.le_of_ble_eq_true rfl) dL_law_1047 ⟨by show _ ≤ 603072; omega, by show _ ≤ 7223402; omega⟩ (fun H locs hP hS => ?_)
  refine lv_istore (lv' := [(7, .int v8), (6, .int v3), (5, .int ix), (4, .ref (Z.2.2 57 0)), (3, .ref (Z.2.2 56 0)), (2, .ref (Z.2.2 26 0)), (1, .ref (Z.2.2 0 0)), (0, .ref b)]) hx hb dL_law_1050 hl (by decide) rfl (fun ls hl => ?_)
  refine lv_goto (tgt := 1620) hx hb dL_law_1052 (by decide) ?_
  refine lv_iinc (v := (ix + (4 : Int32))) (lv' := [(5, .int (ix + (4 : Int32))), (7, .int v8), (6, .int v3), (4, .ref (Z.2.2 57 0)), (3, .ref (Z.2.2 56 0)), (2, .ref (Z.2.2 26 0)), (1, .ref (Z.2.2 0 0)), (0, .ref b)]) hx hb dL_law_1620 hl (k := 2) rfl rfl (by decide) rfl (fun ls hl => ?_)
  refine lv_goto (tgt := 28) hx hb dL_law_1623 (by decide) ?_
  refine W.widen (k := cells + 3) (n := slots + 18) (by omega) (by omega) ?_
  exact hrc _ _ _ _ _ _ _ hk hP hS (lv_sub hl [0, 3, 4, 5, 6, 7] rfl)
set_option maxHeartbeats 4000000 in
set_option maxRecDepth 100000 in
theorem law_C27 (hfl : l.stackTraces = false) (hZ : wD Z) (hx : p.tables.exec = Jvm.exec) (hb : c.code = code) (hml : c.maxLocals = 9) (hown : s.vm.findClass RL = some m.cls) (hts : ∀ w ∈ lw_all, w.before #[Value.ref b] s = true) (hE : EV (wA Z s.heap.size) s) (hK : wK Z s) (hX : va_X b L xs s s.heap) (hbl : b < s.heap.size) (hbA : ¬ wA Z s.heap.size b) {rc : Int32 → SS → SS → SS → Option Unit} {cells slots : Nat} (hcc : cells + 3 ≤ 603072) (hss : slots + 18 ≤ 7223402) (hrc : ∀ (ix : Int32) (X M O : SS) (H : Heap) (locs : List Loc) (ls : Array Slot), rc ix X M O = some () → wP Z (X, M, O) H → va_S (wA Z s.heap.size) s.heap H locs → lv_has ls 9 [(5, .int ix), (4, .ref (Z.2.2 57 0)), (3, .ref (Z.2.2 56 0)), (2, .ref (Z.2.2 26 0)), (1, .ref (Z.2.2 0 0)), (0, .ref b)] → W p l e room_1 s m #[Value.ref b] below meth c H locs (cells + 3) (slots + 18) Q (F0 m 28 ls [])) (ix : Int32) (X M O : SS) (H : Heap) (locs : List Loc) (ls : Array Slot) (hk : f_law_C27 xs L ix X M O rc = some ()) (hP : wP Z (X, M, O) H) (hS : va_S (wA Z s.heap.size) s.heap H locs) (hl : lv_has ls 9 [(5, .int ix), (4, .ref (Z.2.2 57 0)), (3, .ref (Z.2.2 56 0)), (2, .ref (Z.2.2 26 0)), (1, .ref (Z.2.2 0 0)), (0, .ref b)]) : W p l e room_1 s m #[Value.ref b] below meth c H locs cells slots Q (F0 m 1055 ls []) := by
  unfold f_law_C27 at hk
  refine lv_aload_n hx hb dL_law_1055 rfl (lv_at hl 4 rfl) ?_
  refine lv_aload_n hx hb dL_law_1056 rfl (lv_at hl 5 rfl) ?_
  refine lv_iload hx hb dL_law_1057 (lv_at hl 0 rfl) ?_
  refine lv_iconst (v := (1 : Int32)) hx hb dL_law_1059 (by decide) ?_
  refine lv_iadd hx hb dL_law_1060 ?_
  obtain ⟨hg1, hk⟩ := gd_s hk
  refine va_sld hx hb hX hbl hbA hS hg1 dL_law_1061 ?_
  refine lv_aload_n hx hb dL_law_1062 rfl (lv_at hl 5 rfl) ?_
  refine lv_iload hx hb dL_law_1063 (lv_at hl 0 rfl) ?_
  refine lv_iconst (v := (2 : Int32)) hx hb dL_law_1065 (by decide) ?_
  refine lv_iadd hx hb dL_law_1066 ?_
  obtain ⟨hg2, hk⟩ := gd_s hk
  refine va_sld hx hb hX hbl hbA hS hg2 dL_law_1067 ?_
  refine lv_aload_n hx hb dL_law_1068 rfl (lv_at hl 5 rfl) ?_
  refine lv_iload hx hb dL_law_1069 (lv_at hl 0 rfl) ?_
  refine lv_iconst (v := (3 : Int32)) hx hb dL_law_1071 (by decide) ?_
  refine lv_iadd hx hb dL_law_1072 ?_
  obtain ⟨hg3, hk⟩ := gd_s hk
  refine va_sld hx hb hX hbl hbA hS hg3 dL_law_1073 ?_
  refine lv_aload_n hx hb dL_law_1074 rfl (lv_at hl 2 rfl) ?_
  obtain ⟨X5, O6, v4, hf7, hk⟩ := b2_s hk
  refine wc_iSX0 (rest := []) (As := [.ref (Z.2.2 0 0), .int (xs ((ix + (1 : Int32))).toNatClampNeg), .int (xs ((ix + (2 : Int32))).toNatClampNeg), .int (xs ((ix + (3 : Int32))).toNatClampNeg), .ref (Z.2.2 56 0)]) ⟨hx, hb, hml, hown, hts⟩ (fun sz => k_L_vote l hfl Z hZ X M O (xs ((ix + (1 : Int32))).toNatClampNeg) (xs ((ix + (2 : Int32))).toNatClampNeg) (xs ((ix + (3 : Int32))).toNatClampNeg) X5 O6 v4 hf7 sz) (cw_RL_253 (args := _) (s := s) hts (Nat.le_of_ble_eq_true rfl) (Nat.le_of_ble_eq_true rfl)) hE hP hK hS  rfl hl.1 rfl (Nat.le_of_ble_eq_true rfl) dL_law_1075 ⟨by show _ ≤ 603072; omega, by show _ ≤ 7223402; omega⟩ (fun H locs hP hS => ?_)
  refine lv_istore (lv' := [(6, .int v4), (5, .int ix), (4, .ref (Z.2.2 57 0)), (3, .ref (Z.2.2 56 0)), (2, .ref (Z.2.2 26 0)), (1, .ref (Z.2.2 0 0)), (0, .ref b)]) hx hb dL_law_1078 hl (by decide) rfl (fun ls hl => ?_)
  refine lv_aload_n hx hb dL_law_1080 rfl (lv_at hl 4 rfl) ?_
  refine lv_aload_n hx hb dL_law_1081 rfl (lv_at hl 6 rfl) ?_
  refine lv_iload hx hb dL_law_1082 (lv_at hl 1 rfl) ?_
  refine lv_iconst (v := (1 : Int32)) hx hb dL_law_1084 (by decide) ?_
  refine lv_iadd hx hb dL_law_1085 ?_
  obtain ⟨hg8, hk⟩ := gd_s hk
  refine va_sld hx hb hX hbl hbA hS hg8 dL_law_1086 ?_
  refine lv_aload_n hx hb dL_law_1087 rfl (lv_at hl 6 rfl) ?_
  refine lv_iload hx hb dL_law_1088 (lv_at hl 1 rfl) ?_
  refine lv_iconst (v := (2 : Int32)) hx hb dL_law_1090 (by decide) ?_
  refine lv_iadd hx hb dL_law_1091 ?_
  obtain ⟨hg9, hk⟩ := gd_s hk
  refine va_sld hx hb hX hbl hbA hS hg9 dL_law_1092 ?_
  refine lv_aload_n hx hb dL_law_1093 rfl (lv_at hl 6 rfl) ?_
  refine lv_iload hx hb dL_law_1094 (lv_at hl 1 rfl) ?_
  refine lv_iconst (v := (3 : Int32)) hx hb dL_law_1096 (by decide) ?_
  refine lv_iadd hx hb dL_law_1097 ?_
  obtain ⟨hg10, hk⟩ := gd_s hk
  refine va_sld hx hb hX hbl hbA hS hg10 dL_law_1098 ?_
  obtain ⟨M12, v11, hf13, hk⟩ := b1_s hk
  refine wc_iV0 (rest := []) (As := [.int (xs ((ix + (1 : Int32))).toNatClampNeg), .int (xs ((ix + (2 : Int32))).toNatClampNeg), .int (xs ((ix + (3 : Int32))).toNatClampNeg)]) ⟨hx, hb, hml, hown, hts⟩ (fun sz => k_X7_vote l hfl Z hZ X5 M O6 (xs ((ix + (1 : Int32))).toNatClampNeg) (xs ((ix + (2 : Int32))).toNatClampNeg) (xs ((ix + (3 : Int32))).toNatClampNeg) M12 v11 hf13 sz) (cw_RL_256 (args := _) (s := s) hts (Nat.le_of_ble_eq_true rfl) (Nat.le_of_ble_eq_true rfl)) hE hP hK hS (rv_26 hK hP (by decide)) rfl hl.1 rfl (Nat.le_of_ble_eq_true rfl) dL_law_1099 ⟨by show _ ≤ 603072; omega, by show _ ≤ 7223402; omega⟩ (fun H locs hP hS => ?_)
  refine lv_istore (lv' := [(7, .int v11), (6, .int v4), (5, .int ix), (4, .ref (Z.2.2 57 0)), (3, .ref (Z.2.2 56 0)), (2, .ref (Z.2.2 26 0)), (1, .ref (Z.2.2 0 0)), (0, .ref b)]) hx hb dL_law_1102 hl (by decide) rfl (fun ls hl => ?_)
  refine lv_goto (tgt := 1620) hx hb dL_law_1104 (by decide) ?_
  refine lv_iinc (v := (ix + (4 : Int32))) (lv' := [(5, .int (ix + (4 : Int32))), (7, .int v11), (6, .int v4), (4, .ref (Z.2.2 57 0)), (3, .ref (Z.2.2 56 0)), (2, .ref (Z.2.2 26 0)), (1, .ref (Z.2.2 0 0)), (0, .ref b)]) hx hb dL_law_1620 hl (k := 2) rfl rfl (by decide) rfl (fun ls hl => ?_)
  refine lv_goto (tgt := 28) hx hb dL_law_1623 (by decide) ?_
  refine W.widen (k := cells + 3) (n := slots + 18) (by omega) (by omega) ?_
  exact hrc _ _ _ _ _ _ _ hk hP hS (lv_sub hl [0, 3, 4, 5, 6, 7] rfl)
set_option maxHeartbeats 4000000 in
set_option maxRecDepth 100000 in
theorem law_C28 (hfl : l.stackTraces = false) (hZ : wD Z) (hx : p.tables.exec = Jvm.exec) (hb : c.code = code) (hml : c.maxLocals = 9) (hown : s.vm.findClass RL = some m.cls) (hts : ∀ w ∈ lw_all, w.before #[Value.ref b] s = true) (hE : EV (wA Z s.heap.size) s) (hK : wK Z s) (hX : va_X b L xs s s.heap) (hbl : b < s.heap.size) (hbA : ¬ wA Z s.heap.size b) {rc : Int32 → SS → SS → SS → Option Unit} {cells slots : Nat} (hcc : cells + 3 ≤ 603072) (hss : slots + 18 ≤ 7223402) (hrc : ∀ (ix : Int32) (X M O : SS) (H : Heap) (locs : List Loc) (ls : Array Slot), rc ix X M O = some () → wP Z (X, M, O) H → va_S (wA Z s.heap.size) s.heap H locs → lv_has ls 9 [(5, .int ix), (4, .ref (Z.2.2 57 0)), (3, .ref (Z.2.2 56 0)), (2, .ref (Z.2.2 26 0)), (1, .ref (Z.2.2 0 0)), (0, .ref b)] → W p l e room_1 s m #[Value.ref b] below meth c H locs (cells + 3) (slots + 18) Q (F0 m 28 ls [])) (ix : Int32) (X M O : SS) (H : Heap) (locs : List Loc) (ls : Array Slot) (hk : f_law_C28 xs L ix X M O rc = some ()) (hP : wP Z (X, M, O) H) (hS : va_S (wA Z s.heap.size) s.heap H locs) (hl : lv_has ls 9 [(5, .int ix), (4, .ref (Z.2.2 57 0)), (3, .ref (Z.2.2 56 0)), (2, .ref (Z.2.2 26 0)), (1, .ref (Z.2.2 0 0)), (0, .ref b)]) : W p l e room_1 s m #[Value.ref b] below meth c H locs cells slots Q (F0 m 1107 ls []) := by
  unfold f_law_C28 at hk
  refine lv_aload_n hx hb dL_law_1107 rfl (lv_at hl 4 rfl) ?_
  refine lv_aload_n hx hb dL_law_1108 rfl (lv_at hl 5 rfl) ?_
  refine lv_iload hx hb dL_law_1109 (lv_at hl 0 rfl) ?_
  refine lv_iconst (v := (1 : Int32)) hx hb dL_law_1111 (by decide) ?_
  refine lv_iadd hx hb dL_law_1112 ?_
  obtain ⟨hg1, hk⟩ := gd_s hk
  refine va_sld hx hb hX hbl hbA hS hg1 dL_law_1113 ?_
  refine lv_aload_n hx hb dL_law_1114 rfl (lv_at hl 5 rfl) ?_
  refine lv_iload hx hb dL_law_1115 (lv_at hl 0 rfl) ?_
  refine lv_iconst (v := (2 : Int32)) hx hb dL_law_1117 (by decide) ?_
  refine lv_iadd hx hb dL_law_1118 ?_
  obtain ⟨hg2, hk⟩ := gd_s hk
  refine va_sld hx hb hX hbl hbA hS hg2 dL_law_1119 ?_
  refine lv_if_eq (tgt := 1127) hx hb dL_law_1120 (by decide) (fun cz3 => ?_) (fun cz3 => ?_)
  · have hk := it_t cz3 hk
    refine lv_iconst (v := (0 : Int32)) hx hb dL_law_1127 (by decide) ?_
    refine lv_aload_n hx hb dL_law_1128 rfl (lv_at hl 2 rfl) ?_
    obtain ⟨O5, v4, hf6, hk⟩ := b1_s hk
    refine wc_iSX0 (rest := []) (As := [.ref (Z.2.2 0 0), .int (xs ((ix + (1 : Int32))).toNatClampNeg), .int (0 : Int32), .ref (Z.2.2 56 0)]) ⟨hx, hb, hml, hown, hts⟩ (fun sz => k_L_style l hfl Z hZ X M O (xs ((ix + (1 : Int32))).toNatClampNeg) (0 : Int32) O5 v4 hf6 sz) (cw_RL_257 (args := _) (s := s) hts (Nat.le_of_ble_eq_true rfl) (Nat.le_of_ble_eq_true rfl)) hE hP hK hS  rfl hl.1 rfl (Nat.le_of_ble_eq_true rfl) dL_law_1129 ⟨by show _ ≤ 603072; omega, by show _ ≤ 7223402; omega⟩ (fun H locs hP hS => ?_)
    refine lv_istore (lv' := [(6, .int v4), (5, .int ix), (4, .ref (Z.2.2 57 0)), (3, .ref (Z.2.2 56 0)), (2, .ref (Z.2.2 26 0)), (1, .ref (Z.2.2 0 0)), (0, .ref b)]) hx hb dL_law_1132 hl (by decide) rfl (fun ls hl => ?_)
    refine lv_aload_n hx hb dL_law_1134 rfl (lv_at hl 4 rfl) ?_
    refine lv_aload_n hx hb dL_law_1135 rfl (lv_at hl 6 rfl) ?_
    refine lv_iload hx hb dL_law_1136 (lv_at hl 1 rfl) ?_
    refine lv_iconst (v := (1 : Int32)) hx hb dL_law_1138 (by decide) ?_
    refine lv_iadd hx hb dL_law_1139 ?_
    obtain ⟨hg7, hk⟩ := gd_s hk
    refine va_sld hx hb hX hbl hbA hS hg7 dL_law_1140 ?_
    refine lv_aload_n hx hb dL_law_1141 rfl (lv_at hl 6 rfl) ?_
    refine lv_iload hx hb dL_law_1142 (lv_at hl 1 rfl) ?_
    refine lv_iconst (v := (2 : Int32)) hx hb dL_law_1144 (by decide) ?_
    refine lv_iadd hx hb dL_law_1145 ?_
    obtain ⟨hg8, hk⟩ := gd_s hk
    refine va_sld hx hb hX hbl hbA hS hg8 dL_law_1146 ?_
    refine lv_if_eq (tgt := 1154) hx hb dL_law_1147 (by decide) (fun cz9 => ?_) (fun cz9 => ?_)
    · have hk := it_t cz9 hk
      refine lv_iconst (v := (0 : Int32)) hx hb dL_law_1154 (by decide) ?_
      obtain ⟨M11, v10, hf12, hk⟩ := b1_s hk
      refine wc_lV0 (rest := []) (As := [.int (xs ((ix + (1 : Int32))).toNatClampNeg), .int (0 : Int32)]) ⟨hx, hb, hml, hown, hts⟩ (fun sz => k_X7_style l hfl Z hZ X M O5 (xs ((ix + (1 : Int32))).toNatClampNeg) (0 : Int32) M11 v10 hf12 sz) (cw_RL_259 (args := _) (s := s) hts (Nat.le_of_ble_eq_true rfl) (Nat.le_of_ble_eq_true rfl)) hE hP hK hS (rv_26 hK hP (by decide)) rfl hl.1 rfl (Nat.le_of_ble_eq_true rfl) dL_law_1155 ⟨by show _ ≤ 603072; omega, by show _ ≤ 7223402; omega⟩ (fun H locs hP hS => ?_)
      refine lv_lstore (lv' := [(7, .long v10), (6, .int v4), (5, .int ix), (4, .ref (Z.2.2 57 0)), (3, .ref (Z.2.2 56 0)), (2, .ref (Z.2.2 26 0)), (1, .ref (Z.2.2 0 0)), (0, .ref b)]) hx hb dL_law_1158 hl (by decide) rfl (fun ls hl => ?_)
      refine lv_goto (tgt := 1620) hx hb dL_law_1160 (by decide) ?_
      refine lv_iinc (v := (ix + (4 : Int32))) (lv' := [(5, .int (ix + (4 : Int32))), (7, .long v10), (6, .int v4), (4, .ref (Z.2.2 57 0)), (3, .ref (Z.2.2 56 0)), (2, .ref (Z.2.2 26 0)), (1, .ref (Z.2.2 0 0)), (0, .ref b)]) hx hb dL_law_1620 hl (k := 2) rfl rfl (by decide) rfl (fun ls hl => ?_)
      refine lv_goto (tgt := 28) hx hb dL_law_1623 (by decide) ?_
      refine W.widen (k := cells + 3) (n := slots + 18) (by omega) (by omega) ?_
      exact hrc _ _ _ _ _ _ _ hk hP hS (lv_sub hl [0, 3, 4, 5, 6, 7] rfl)
    · have hk := it_f cz9 hk
      refine lv_iconst (v := (1 : Int32)) hx hb dL_law_1150 (by decide) ?_
      refine lv_goto (tgt := 1155) hx hb dL_law_1151 (by decide) ?_
      obtain ⟨M14, v13, hf15, hk⟩ := b1_s hk
      refine wc_lV0 (rest := []) (As := [.int (xs ((ix + (1 : Int32))).toNatClampNeg), .int (1 : Int32)]) ⟨hx, hb, hml, hown, hts⟩ (fun sz => k_X7_style l hfl Z hZ X M O5 (xs ((ix + (1 : Int32))).toNatClampNeg) (1 : Int32) M14 v13 hf15 sz) (cw_RL_259 (args := _) (s := s) hts (Nat.le_of_ble_eq_true rfl) (Nat.le_of_ble_eq_true rfl)) hE hP hK hS (rv_26 hK hP (by decide)) rfl hl.1 rfl (Nat.le_of_ble_eq_true rfl) dL_law_1155 ⟨by show _ ≤ 603072; omega, by show _ ≤ 7223402; omega⟩ (fun H locs hP hS => ?_)
      refine lv_lstore (lv' := [(7, .long v13), (6, .int v4), (5, .int ix), (4, .ref (Z.2.2 57 0)), (3, .ref (Z.2.2 56 0)), (2, .ref (Z.2.2 26 0)), (1, .ref (Z.2.2 0 0)), (0, .ref b)]) hx hb dL_law_1158 hl (by decide) rfl (fun ls hl => ?_)
      refine lv_goto (tgt := 1620) hx hb dL_law_1160 (by decide) ?_
      refine lv_iinc (v := (ix + (4 : Int32))) (lv' := [(5, .int (ix + (4 : Int32))), (7, .long v13), (6, .int v4), (4, .ref (Z.2.2 57 0)), (3, .ref (Z.2.2 56 0)), (2, .ref (Z.2.2 26 0)), (1, .ref (Z.2.2 0 0)), (0, .ref b)]) hx hb dL_law_1620 hl (k := 2) rfl rfl (by decide) rfl (fun ls hl => ?_)
      refine lv_goto (tgt := 28) hx hb dL_law_1623 (by decide) ?_
      refine W.widen (k := cells + 3) (n := slots + 18) (by omega) (by omega) ?_
      exact hrc _ _ _ _ _ _ _ hk hP hS (lv_sub hl [0, 3, 4, 5, 6, 7] rfl)
  · have hk := it_f cz3 hk
    refine lv_iconst (v := (1 : Int32)) hx hb dL_law_1123 (by decide) ?_
    refine lv_goto (tgt := 1128) hx hb dL_law_1124 (by decide) ?_
    refine lv_aload_n hx hb dL_law_1128 rfl (lv_at hl 2 rfl) ?_
    obtain ⟨O17, v16, hf18, hk⟩ := b1_s hk
    refine wc_iSX0 (rest := []) (As := [.ref (Z.2.2 0 0), .int (xs ((ix + (1 : Int32))).toNatClampNeg), .int (1 : Int32), .ref (Z.2.2 56 0)]) ⟨hx, hb, hml, hown, hts⟩ (fun sz => k_L_style l hfl Z hZ X M O (xs ((ix + (1 : Int32))).toNatClampNeg) (1 : Int32) O17 v16 hf18 sz) (cw_RL_257 (args := _) (s := s) hts (Nat.le_of_ble_eq_true rfl) (Nat.le_of_ble_eq_true rfl)) hE hP hK hS  rfl hl.1 rfl (Nat.le_of_ble_eq_true rfl) dL_law_1129 ⟨by show _ ≤ 603072; omega, by show _ ≤ 7223402; omega⟩ (fun H locs hP hS => ?_)
    refine lv_istore (lv' := [(6, .int v16), (5, .int ix), (4, .ref (Z.2.2 57 0)), (3, .ref (Z.2.2 56 0)), (2, .ref (Z.2.2 26 0)), (1, .ref (Z.2.2 0 0)), (0, .ref b)]) hx hb dL_law_1132 hl (by decide) rfl (fun ls hl => ?_)
    refine lv_aload_n hx hb dL_law_1134 rfl (lv_at hl 4 rfl) ?_
    refine lv_aload_n hx hb dL_law_1135 rfl (lv_at hl 6 rfl) ?_
    refine lv_iload hx hb dL_law_1136 (lv_at hl 1 rfl) ?_
    refine lv_iconst (v := (1 : Int32)) hx hb dL_law_1138 (by decide) ?_
    refine lv_iadd hx hb dL_law_1139 ?_
    obtain ⟨hg19, hk⟩ := gd_s hk
    refine va_sld hx hb hX hbl hbA hS hg19 dL_law_1140 ?_
    refine lv_aload_n hx hb dL_law_1141 rfl (lv_at hl 6 rfl) ?_
    refine lv_iload hx hb dL_law_1142 (lv_at hl 1 rfl) ?_
    refine lv_iconst (v := (2 : Int32)) hx hb dL_law_1144 (by decide) ?_
    refine lv_iadd hx hb dL_law_1145 ?_
    obtain ⟨hg20, hk⟩ := gd_s hk
    refine va_sld hx hb hX hbl hbA hS hg20 dL_law_1146 ?_
    refine lv_if_eq (tgt := 1154) hx hb dL_law_1147 (by decide) (fun cz21 => ?_) (fun cz21 => ?_)
    · have hk := it_t cz21 hk
      refine lv_iconst (v := (0 : Int32)) hx hb dL_law_1154 (by decide) ?_
      obtain ⟨M23, v22, hf24, hk⟩ := b1_s hk
      refine wc_lV0 (rest := []) (As := [.int (xs ((ix + (1 : Int32))).toNatClampNeg), .int (0 : Int32)]) ⟨hx, hb, hml, hown, hts⟩ (fun sz => k_X7_style l hfl Z hZ X M O17 (xs ((ix + (1 : Int32))).toNatClampNeg) (0 : Int32) M23 v22 hf24 sz) (cw_RL_259 (args := _) (s := s) hts (Nat.le_of_ble_eq_true rfl) (Nat.le_of_ble_eq_true rfl)) hE hP hK hS (rv_26 hK hP (by decide)) rfl hl.1 rfl (Nat.le_of_ble_eq_true rfl) dL_law_1155 ⟨by show _ ≤ 603072; omega, by show _ ≤ 7223402; omega⟩ (fun H locs hP hS => ?_)
      refine lv_lstore (lv' := [(7, .long v22), (6, .int v16), (5, .int ix), (4, .ref (Z.2.2 57 0)), (3, .ref (Z.2.2 56 0)), (2, .ref (Z.2.2 26 0)), (1, .ref (Z.2.2 0 0)), (0, .ref b)]) hx hb dL_law_1158 hl (by decide) rfl (fun ls hl => ?_)
      refine lv_goto (tgt := 1620) hx hb dL_law_1160 (by decide) ?_
      refine lv_iinc (v := (ix + (4 : Int32))) (lv' := [(5, .int (ix + (4 : Int32))), (7, .long v22), (6, .int v16), (4, .ref (Z.2.2 57 0)), (3, .ref (Z.2.2 56 0)), (2, .ref (Z.2.2 26 0)), (1, .ref (Z.2.2 0 0)), (0, .ref b)]) hx hb dL_law_1620 hl (k := 2) rfl rfl (by decide) rfl (fun ls hl => ?_)
      refine lv_goto (tgt := 28) hx hb dL_law_1623 (by decide) ?_
      refine W.widen (k := cells + 3) (n := slots + 18) (by omega) (by omega) ?_
      exact hrc _ _ _ _ _ _ _ hk hP hS (lv_sub hl [0, 3, 4, 5, 6, 7] rfl)
    · have hk := it_f cz21 hk
      refine lv_iconst (v := (1 : Int32)) hx hb dL_law_1150 (by decide) ?_
      refine lv_goto (tgt := 1155) hx hb dL_law_1151 (by decide) ?_
      obtain ⟨M26, v25, hf27, hk⟩ := b1_s hk
      refine wc_lV0 (rest := []) (As := [.int (xs ((ix + (1 : Int32))).toNatClampNeg), .int (1 : Int32)]) ⟨hx, hb, hml, hown, hts⟩ (fun sz => k_X7_style l hfl Z hZ X M O17 (xs ((ix + (1 : Int32))).toNatClampNeg) (1 : Int32) M26 v25 hf27 sz) (cw_RL_259 (args := _) (s := s) hts (Nat.le_of_ble_eq_true rfl) (Nat.le_of_ble_eq_true rfl)) hE hP hK hS (rv_26 hK hP (by decide)) rfl hl.1 rfl (Nat.le_of_ble_eq_true rfl) dL_law_1155 ⟨by show _ ≤ 603072; omega, by show _ ≤ 7223402; omega⟩ (fun H locs hP hS => ?_)
      refine lv_lstore (lv' := [(7, .long v25), (6, .int v16), (5, .int ix), (4, .ref (Z.2.2 57 0)), (3, .ref (Z.2.2 56 0)), (2, .ref (Z.2.2 26 0)), (1, .ref (Z.2.2 0 0)), (0, .ref b)]) hx hb dL_law_1158 hl (by decide) rfl (fun ls hl => ?_)
      refine lv_goto (tgt := 1620) hx hb dL_law_1160 (by decide) ?_
      refine lv_iinc (v := (ix + (4 : Int32))) (lv' := [(5, .int (ix + (4 : Int32))), (7, .long v25), (6, .int v16), (4, .ref (Z.2.2 57 0)), (3, .ref (Z.2.2 56 0)), (2, .ref (Z.2.2 26 0)), (1, .ref (Z.2.2 0 0)), (0, .ref b)]) hx hb dL_law_1620 hl (k := 2) rfl rfl (by decide) rfl (fun ls hl => ?_)
      refine lv_goto (tgt := 28) hx hb dL_law_1623 (by decide) ?_
      refine W.widen (k := cells + 3) (n := slots + 18) (by omega) (by omega) ?_
      exact hrc _ _ _ _ _ _ _ hk hP hS (lv_sub hl [0, 3, 4, 5, 6, 7] rfl)
set_option maxHeartbeats 4000000 in
set_option maxRecDepth 100000 in
theorem law_C29 (hfl : l.stackTraces = false) (hZ : wD Z) (hx : p.tables.exec = Jvm.exec) (hb : c.code = code) (hml : c.maxLocals = 9) (hown : s.vm.findClass RL = some m.cls) (hts : ∀ w ∈ lw_all, w.before #[Value.ref b] s = true) (hE : EV (wA Z s.heap.size) s) (hK : wK Z s) (hX : va_X b L xs s s.heap) (hbl : b < s.heap.size) (hbA : ¬ wA Z s.heap.size b) {rc : Int32 → SS → SS → SS → Option Unit} {cells slots : Nat} (hcc : cells + 3 ≤ 603072) (hss : slots + 18 ≤ 7223402) (hrc : ∀ (ix : Int32) (X M O : SS) (H : Heap) (locs : List Loc) (ls : Array Slot), rc ix X M O = some () → wP Z (X, M, O) H → va_S (wA Z s.heap.size) s.heap H locs → lv_has ls 9 [(5, .int ix), (4, .ref (Z.2.2 57 0)), (3, .ref (Z.2.2 56 0)), (2, .ref (Z.2.2 26 0)), (1, .ref (Z.2.2 0 0)), (0, .ref b)] → W p l e room_1 s m #[Value.ref b] below meth c H locs (cells + 3) (slots + 18) Q (F0 m 28 ls [])) (ix : Int32) (X M O : SS) (H : Heap) (locs : List Loc) (ls : Array Slot) (hk : f_law_C29 xs L ix X M O rc = some ()) (hP : wP Z (X, M, O) H) (hS : va_S (wA Z s.heap.size) s.heap H locs) (hl : lv_has ls 9 [(5, .int ix), (4, .ref (Z.2.2 57 0)), (3, .ref (Z.2.2 56 0)), (2, .ref (Z.2.2 26 0)), (1, .ref (Z.2.2 0 0)), (0, .ref b)]) : W p l e room_1 s m #[Value.ref b] below meth c H locs cells slots Q (F0 m 1163 ls []) := by
  unfold f_law_C29 at hk
  refine lv_aload_n hx hb dL_law_1163 rfl (lv_at hl 4 rfl) ?_
  refine lv_aload_n hx hb dL_law_1164 rfl (lv_at hl 5 rfl) ?_
  refine lv_iload hx hb dL_law_1165 (lv_at hl 0 rfl) ?_
  refine lv_iconst (v := (1 : Int32)) hx hb dL_law_1167 (by decide) ?_
  refine lv_iadd hx hb dL_law_1168 ?_
  obtain ⟨hg1, hk⟩ := gd_s hk
  refine va_sld hx hb hX hbl hbA hS hg1 dL_law_1169 ?_
  refine lv_aload_n hx hb dL_law_1170 rfl (lv_at hl 2 rfl) ?_
  obtain ⟨O3, v2, hf4, hk⟩ := b1_s hk
  refine wc_iSX0 (rest := []) (As := [.ref (Z.2.2 0 0), .int (xs ((ix + (1 : Int32))).toNatClampNeg), .ref (Z.2.2 56 0)]) ⟨hx, hb, hml, hown, hts⟩ (fun sz => k_L_review l hfl Z hZ X M O (xs ((ix + (1 : Int32))).toNatClampNeg) O3 v2 hf4 sz) (cw_RL_260 (args := _) (s := s) hts (Nat.le_of_ble_eq_true rfl) (Nat.le_of_ble_eq_true rfl)) hE hP hK hS  rfl hl.1 rfl (Nat.le_of_ble_eq_true rfl) dL_law_1171 ⟨by show _ ≤ 603072; omega, by show _ ≤ 7223402; omega⟩ (fun H locs hP hS => ?_)
  refine lv_istore (lv' := [(6, .int v2), (5, .int ix), (4, .ref (Z.2.2 57 0)), (3, .ref (Z.2.2 56 0)), (2, .ref (Z.2.2 26 0)), (1, .ref (Z.2.2 0 0)), (0, .ref b)]) hx hb dL_law_1174 hl (by decide) rfl (fun ls hl => ?_)
  refine lv_aload_n hx hb dL_law_1176 rfl (lv_at hl 4 rfl) ?_
  refine lv_aload_n hx hb dL_law_1177 rfl (lv_at hl 6 rfl) ?_
  refine lv_iload hx hb dL_law_1178 (lv_at hl 1 rfl) ?_
  refine lv_iconst (v := (1 : Int32)) hx hb dL_law_1180 (by decide) ?_
  refine lv_iadd hx hb dL_law_1181 ?_
  obtain ⟨hg5, hk⟩ := gd_s hk
  refine va_sld hx hb hX hbl hbA hS hg5 dL_law_1182 ?_
  obtain ⟨M7, v6, hf8, hk⟩ := b1_s hk
  refine wc_iV0 (rest := []) (As := [.int (xs ((ix + (1 : Int32))).toNatClampNeg)]) ⟨hx, hb, hml, hown, hts⟩ (fun sz => k_X7_review l hfl Z hZ X M O3 (xs ((ix + (1 : Int32))).toNatClampNeg) M7 v6 hf8 sz) (cw_RL_262 (args := _) (s := s) hts (Nat.le_of_ble_eq_true rfl) (Nat.le_of_ble_eq_true rfl)) hE hP hK hS (rv_26 hK hP (by decide)) rfl hl.1 rfl (Nat.le_of_ble_eq_true rfl) dL_law_1183 ⟨by show _ ≤ 603072; omega, by show _ ≤ 7223402; omega⟩ (fun H locs hP hS => ?_)
  refine lv_istore (lv' := [(7, .int v6), (6, .int v2), (5, .int ix), (4, .ref (Z.2.2 57 0)), (3, .ref (Z.2.2 56 0)), (2, .ref (Z.2.2 26 0)), (1, .ref (Z.2.2 0 0)), (0, .ref b)]) hx hb dL_law_1186 hl (by decide) rfl (fun ls hl => ?_)
  refine lv_goto (tgt := 1620) hx hb dL_law_1188 (by decide) ?_
  refine lv_iinc (v := (ix + (4 : Int32))) (lv' := [(5, .int (ix + (4 : Int32))), (7, .int v6), (6, .int v2), (4, .ref (Z.2.2 57 0)), (3, .ref (Z.2.2 56 0)), (2, .ref (Z.2.2 26 0)), (1, .ref (Z.2.2 0 0)), (0, .ref b)]) hx hb dL_law_1620 hl (k := 2) rfl rfl (by decide) rfl (fun ls hl => ?_)
  refine lv_goto (tgt := 28) hx hb dL_law_1623 (by decide) ?_
  refine W.widen (k := cells + 3) (n := slots + 18) (by omega) (by omega) ?_
  exact hrc _ _ _ _ _ _ _ hk hP hS (lv_sub hl [0, 3, 4, 5, 6, 7] rfl)