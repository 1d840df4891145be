variable {p : Program} {l : Launch} {e : Env} {s : State} {m : MethodId} {below : List Frame} {meth : Method} {c : Code} {Q : State → Prop} {Z : ZT} {b L : Nat} {xs : Nat → Int32}
set_option maxHeartbeats 4000000 in
set_option maxRecDepth 100000 in
theorem law_C30 (hfl : l.stackTraces = false) (hZ : wD Z) (hx : p.tables.exec = Jvm.exec) (hb : c.code = code) (hml : c.maxLocals = 9) (hown : s.vm.findClass RL = some m.cls) (hts : ∀ w ∈ lw_all, w.before #[Value.ref b] s = true) (hE : EV (wA Z s.heap.size) s) (hK : wK Z s) (hX : va_X b L xs s s.heap) (hbl : b < s.heap.size) (hbA : ¬ wA Z s.heap.size b) {rc : Int32 → SS → SS → SS → Option Unit} {cells slots : Nat} (hcc : cells + 3 ≤ 600006) (hss : slots + 18 ≤ 7302096) (hrc : ∀ (ix : Int32) (X M O : SS) (H : Heap) (locs : List Loc) (ls : Array Slot), rc ix X M O = some () → wP Z (X, M, O) H → va_S (wA Z s.heap.size) s.heap H locs → lv_has ls 9 [(5, .int ix), (4, .ref (Z.2.2 57 0)), (3, .ref (Z.2.2 56 0)), (2, .ref (Z.2.2 26 0)), (1, .ref (Z.2.2 0 0)), (0, .ref b)] → W p l e room_1 s m #[Value.ref b] below meth c H locs (cells + 3) (slots + 18) Q (F0 m 28 ls [])) (ix : Int32) (X M O : SS) (H : Heap) (locs : List Loc) (ls : Array Slot) (hk : f_law_C30 xs L ix X M O rc = some ()) (hP : wP Z (X, M, O) H) (hS : va_S (wA Z s.heap.size) s.heap H locs) (hl : lv_has ls 9 [(5, .int ix), (4, .ref (Z.2.2 57 0)), (3, .ref (Z.2.2 56 0)), (2, .ref (Z.2.2 26 0)), (1, .ref (Z.2.2 0 0)), (0, .ref b)]) : W p l e room_1 s m #[Value.ref b] below meth c H locs cells slots Q (F0 m 1897 ls []) := by
  unfold f_law_C30 at hk
  refine lv_aload_n hx hb dL_law_1897 rfl (lv_at hl 4 rfl) ?_
  refine lv_aload_n hx hb dL_law_1898 rfl (lv_at hl 5 rfl) ?_
  refine lv_iload hx hb dL_law_1899 (lv_at hl 0 rfl) ?_
  refine lv_iconst (v := (1 : Int32)) hx hb dL_law_1901 (by decide) ?_
  refine lv_iadd hx hb dL_law_1902 ?_
  obtain ⟨hg1, hk⟩ := gd_s hk
  refine va_sld hx hb hX hbl hbA hS hg1 dL_law_1903 ?_
  refine lv_aload_n hx hb dL_law_1904 rfl (lv_at hl 5 rfl) ?_
  refine lv_iload hx hb dL_law_1905 (lv_at hl 0 rfl) ?_
  refine lv_iconst (v := (2 : Int32)) hx hb dL_law_1907 (by decide) ?_
  refine lv_iadd hx hb dL_law_1908 ?_
  obtain ⟨hg2, hk⟩ := gd_s hk
  refine va_sld hx hb hX hbl hbA hS hg2 dL_law_1909 ?_
  refine lv_aload_n hx hb dL_law_1910 rfl (lv_at hl 2 rfl) ?_
  obtain ⟨X4, O5, v3, hf6, hk⟩ := b2_s hk
  refine wc_iSX0 (rest := []) (As := [.ref (Z.2.2 0 0), .int (xs ((ix + (1 : Int32))).toNatClampNeg), .int (xs ((ix + (2 : Int32))).toNatClampNeg), .ref (Z.2.2 56 0)]) ⟨hx, hb, hml, hown, hts⟩ (fun sz => k_L_best l hfl Z hZ X M O (xs ((ix + (1 : Int32))).toNatClampNeg) (xs ((ix + (2 : Int32))).toNatClampNeg) X4 O5 v3 hf6 sz) (cw_RL_263 (args := _) (s := s) hts (Nat.le_of_ble_eq_true rfl) (Nat.le_of_ble_eq_true rfl)) hE hP hK hS  rfl hl.1 rfl (Nat.le_of_ble_eq_true rfl) dL_law_1911 ⟨by show _ ≤ 600006; omega, by show _ ≤ 7302096; omega⟩ (fun H locs hP hS => ?_)
  refine lv_istore (lv' := [(6, .int v3), (5, .int ix), (4, .ref (Z.2.2 57 0)), (3, .ref (Z.2.2 56 0)), (2, .ref (Z.2.2 26 0)), (1, .ref (Z.2.2 0 0)), (0, .ref b)]) hx hb dL_law_1914 hl (by decide) rfl (fun ls hl => ?_)
  refine lv_aload_n hx hb dL_law_1916 rfl (lv_at hl 4 rfl) ?_
  refine lv_aload_n hx hb dL_law_1917 rfl (lv_at hl 6 rfl) ?_
  refine lv_iload hx hb dL_law_1918 (lv_at hl 1 rfl) ?_
  refine lv_iconst (v := (1 : Int32)) hx hb dL_law_1920 (by decide) ?_
  refine lv_iadd hx hb dL_law_1921 ?_
  obtain ⟨hg7, hk⟩ := gd_s hk
  refine va_sld hx hb hX hbl hbA hS hg7 dL_law_1922 ?_
  refine lv_aload_n hx hb dL_law_1923 rfl (lv_at hl 6 rfl) ?_
  refine lv_iload hx hb dL_law_1924 (lv_at hl 1 rfl) ?_
  refine lv_iconst (v := (2 : Int32)) hx hb dL_law_1926 (by decide) ?_
  refine lv_iadd hx hb dL_law_1927 ?_
  obtain ⟨hg8, hk⟩ := gd_s hk
  refine va_sld hx hb hX hbl hbA hS hg8 dL_law_1928 ?_
  obtain ⟨M10, v9, hf11, hk⟩ := b1_s hk
  refine wc_iV0 (rest := []) (As := [.int (xs ((ix + (1 : Int32))).toNatClampNeg), .int (xs ((ix + (2 : Int32))).toNatClampNeg)]) ⟨hx, hb, hml, hown, hts⟩ (fun sz => k_X7_best l hfl Z hZ X4 M O5 (xs ((ix + (1 : Int32))).toNatClampNeg) (xs ((ix + (2 : Int32))).toNatClampNeg) M10 v9 hf11 sz) (cw_RL_265 (args := _) (s := s) hts (Nat.le_of_ble_eq_true rfl) (Nat.le_of_ble_eq_true rfl)) hE hP hK hS (rv_26 hK hP (by decide)) rfl hl.1 rfl (Nat.le_of_ble_eq_true rfl) dL_law_1929 ⟨by show _ ≤ 600006; omega, by show _ ≤ 7302096; omega⟩ (fun H locs hP hS => ?_)
  refine lv_istore (lv' := [(7, .int v9), (6, .int v3), (5, .int ix), (4, .ref (Z.2.2 57 0)), (3, .ref (Z.2.2 56 0)), (2, .ref (Z.2.2 26 0)), (1, .ref (Z.2.2 0 0)), (0, .ref b)]) hx hb dL_law_1932 hl (by decide) rfl (fun ls hl => ?_)
  refine lv_aload_n hx hb dL_law_1934 rfl (lv_at hl 5 rfl) ?_
  obtain ⟨v12, hf13, hk⟩ := b0_s hk
  refine wc_iV0 (rest := []) (As := []) ⟨hx, hb, hml, hown, hts⟩ (fun sz => k_X7_thrown l hfl Z hZ X4 M10 O5 v12 hf13 sz) (cw_RL_163 (args := _) (s := s) hts (Nat.le_of_ble_eq_true rfl) (Nat.le_of_ble_eq_true rfl)) hE hP hK hS (rv_26 hK hP (by decide)) rfl hl.1 rfl (Nat.le_of_ble_eq_true rfl) dL_law_1935 ⟨by show _ ≤ 600006; omega, by show _ ≤ 7302096; omega⟩ (fun H locs hP hS => ?_)
  refine lv_iload hx hb dL_law_1938 (lv_at hl 1 rfl) ?_
  refine lv_icmp_eq (tgt := 1945) hx hb dL_law_1940 (by decide) (fun cz14 => ?_) (fun cz14 => ?_)
  · have hk := it_t cz14 hk
    refine lv_iload hx hb dL_law_1945 (lv_at hl 1 rfl) ?_
    refine lv_if_ne (tgt := 1962) hx hb dL_law_1947 (by decide) (fun cz15 => ?_) (fun cz15 => ?_)
    · have hk := it_f cz15 hk
      refine lv_goto (tgt := 2753) hx hb dL_law_1962 (by decide) ?_
      refine lv_iinc (v := (ix + (4 : Int32))) (lv' := [(5, .int (ix + (4 : Int32))), (7, .int v9), (6, .int v3), (4, .ref (Z.2.2 57 0)), (3, .ref (Z.2.2 56 0)), (2, .ref (Z.2.2 26 0)), (1, .ref (Z.2.2 0 0)), (0, .ref b)]) hx hb dL_law_2753 hl (k := 2) rfl rfl (by decide) rfl (fun ls hl => ?_)
      refine lv_goto (tgt := 28) hx hb dL_law_2756 (by decide) ?_
      refine W.widen (k := cells + 3) (n := slots + 18) (by omega) (by omega) ?_
      exact hrc _ _ _ _ _ _ _ hk hP hS (lv_sub hl [0, 3, 4, 5, 6, 7] rfl)
    · have hk := it_t cz15 hk
      refine lv_aload_n hx hb dL_law_1950 rfl (lv_at hl 4 rfl) ?_
      refine lv_iconst (v := (0 : Int32)) hx hb dL_law_1951 (by decide) ?_
      refine wa_laload_56 hx hb hK hP (by decide) (by unfold vp_in; decide) dL_law_1952 ?_
      refine lv_iload hx hb dL_law_1953 (lv_at hl 0 rfl) ?_
      refine lv_i2l (v := (v9).toInt64) hx hb dL_law_1955 rfl ?_
      refine W.lcmp hx hb dL_law_1956 ?_
      refine lv_if_eq (tgt := 1962) hx hb dL_law_1957 (by decide) (fun cz16 => ?_) (fun cz16 => ?_)
      · have hk := it_t cz16 hk
        refine lv_goto (tgt := 2753) hx hb dL_law_1962 (by decide) ?_
        refine lv_iinc (v := (ix + (4 : Int32))) (lv' := [(5, .int (ix + (4 : Int32))), (7, .int v9), (6, .int v3), (4, .ref (Z.2.2 57 0)), (3, .ref (Z.2.2 56 0)), (2, .ref (Z.2.2 26 0)), (1, .ref (Z.2.2 0 0)), (0, .ref b)]) hx hb dL_law_2753 hl (k := 2) rfl rfl (by decide) rfl (fun ls hl => ?_)
        refine lv_goto (tgt := 28) hx hb dL_law_2756 (by decide) ?_
        refine W.widen (k := cells + 3) (n := slots + 18) (by omega) (by omega) ?_
        exact hrc _ _ _ _ _ _ _ hk hP hS (lv_sub hl [0, 3, 4, 5, 6, 7] rfl)
      · have hk := it_f cz16 hk
        refine lv_iconst (v := (0 : Int32)) hx hb dL_law_1960 (by decide) ?_
        exact nomatch (show none = some _ from hk)
  · have hk := it_f cz14 hk
    refine lv_iconst (v := (0 : Int32)) hx hb dL_law_1943 (by decide) ?_
    exact nomatch (show none = some _ from hk)
set_option maxHeartbeats 4000000 in
set_option maxRecDepth 100000 in
theorem law_C31 (hfl : l.stackTraces = false) (hZ : wD Z) (hx : p.tables.exec = Jvm.exec) (hb : c.code = code) (hml : c.maxLocals = 9) (hown : s.vm.findClass RL = some m.cls) (hts : ∀ w ∈ lw_all, w.before #[Value.ref b] s = true) (hE : EV (wA Z s.heap.size) s) (hK : wK Z s) (hX : va_X b L xs s s.heap) (hbl : b < s.heap.size) (hbA : ¬ wA Z s.heap.size b) {rc : Int32 → SS → SS → SS → Option Unit} {cells slots : Nat} (hcc : cells + 3 ≤ 600006) (hss : slots + 18 ≤ 7302096) (hrc : ∀ (ix : Int32) (X M O : SS) (H : Heap) (locs : List Loc) (ls : Array Slot), rc ix X M O = some () → wP Z (X, M, O) H → va_S (wA Z s.heap.size) s.heap H locs → lv_has ls 9 [(5, .int ix), (4, .ref (Z.2.2 57 0)), (3, .ref (Z.2.2 56 0)), (2, .ref (Z.2.2 26 0)), (1, .ref (Z.2.2 0 0)), (0, .ref b)] → W p l e room_1 s m #[Value.ref b] below meth c H locs (cells + 3) (slots + 18) Q (F0 m 28 ls [])) (ix : Int32) (X M O : SS) (H : Heap) (locs : List Loc) (ls : Array Slot) (hk : f_law_C31 xs L ix X M O rc = some ()) (hP : wP Z (X, M, O) H) (hS : va_S (wA Z s.heap.size) s.heap H locs) (hl : lv_has ls 9 [(5, .int ix), (4, .ref (Z.2.2 57 0)), (3, .ref (Z.2.2 56 0)), (2, .ref (Z.2.2 26 0)), (1, .ref (Z.2.2 0 0)), (0, .ref b)]) : W p l e room_1 s m #[Value.ref b] below meth c H locs cells slots Q (F0 m 1965 ls []) := by
  unfold f_law_C31 at hk
  refine lv_aload_n hx hb dL_law_1965 rfl (lv_at hl 4 rfl) ?_
  refine lv_aload_n hx hb dL_law_1966 rfl (lv_at hl 5 rfl) ?_
  refine lv_iload hx hb dL_law_1967 (lv_at hl 0 rfl) ?_
  refine lv_iconst (v := (1 : Int32)) hx hb dL_law_1969 (by decide) ?_
  refine lv_iadd hx hb dL_law_1970 ?_
  obtain ⟨hg1, hk⟩ := gd_s hk
  refine va_sld hx hb hX hbl hbA hS hg1 dL_law_1971 ?_
  refine lv_aload hx hb dL_law_1972 (lv_at hl 1 rfl) ?_
  obtain ⟨X3, O4, v2, hf5, hk⟩ := b2_s hk
  refine wc_iSX0 (rest := []) (As := [.ref (Z.2.2 0 0), .int (xs ((ix + (1 : Int32))).toNatClampNeg), .ref (Z.2.2 57 0)]) ⟨hx, hb, hml, hown, hts⟩ (fun sz => k_L_points l hfl Z hZ X M O (xs ((ix + (1 : Int32))).toNatClampNeg) X3 O4 v2 hf5 sz) (cw_RL_266 (args := _) (s := s) hts (Nat.le_of_ble_eq_true rfl) (Nat.le_of_ble_eq_true rfl)) hE hP hK hS  rfl hl.1 rfl (Nat.le_of_ble_eq_true rfl) dL_law_1974 ⟨by show _ ≤ 600006; omega, by show _ ≤ 7302096; omega⟩ (fun H locs hP hS => ?_)
  refine lv_istore (lv' := [(6, .int v2), (5, .int ix), (4, .ref (Z.2.2 57 0)), (3, .ref (Z.2.2 56 0)), (2, .ref (Z.2.2 26 0)), (1, .ref (Z.2.2 0 0)), (0, .ref b)]) hx hb dL_law_1977 hl (by decide) rfl (fun ls hl => ?_)
  refine lv_aload_n hx hb dL_law_1979 rfl (lv_at hl 4 rfl) ?_
  refine lv_aload_n hx hb dL_law_1980 rfl (lv_at hl 6 rfl) ?_
  refine lv_iload hx hb dL_law_1981 (lv_at hl 1 rfl) ?_
  refine lv_iconst (v := (1 : Int32)) hx hb dL_law_1983 (by decide) ?_
  refine lv_iadd hx hb dL_law_1984 ?_
  obtain ⟨hg6, hk⟩ := gd_s hk
  refine va_sld hx hb hX hbl hbA hS hg6 dL_law_1985 ?_
  obtain ⟨M8, v7, hf9, hk⟩ := b1_s hk
  refine wc_fV0 (rest := []) (As := [.int (xs ((ix + (1 : Int32))).toNatClampNeg)]) ⟨hx, hb, hml, hown, hts⟩ (fun sz => k_X7_points l hfl Z hZ X3 M O4 (xs ((ix + (1 : Int32))).toNatClampNeg) M8 v7 hf9 sz) (cw_RL_269 (args := _) (s := s) hts (Nat.le_of_ble_eq_true rfl) (Nat.le_of_ble_eq_true rfl)) hE hP hK hS (rv_26 hK hP (by decide)) rfl hl.1 rfl (Nat.le_of_ble_eq_true rfl) dL_law_1986 ⟨by show _ ≤ 600006; omega, by show _ ≤ 7302096; omega⟩ (fun H locs hP hS => ?_)
  refine lv_fstore (lv' := [(7, .float v7), (6, .int v2), (5, .int ix), (4, .ref (Z.2.2 57 0)), (3, .ref (Z.2.2 56 0)), (2, .ref (Z.2.2 26 0)), (1, .ref (Z.2.2 0 0)), (0, .ref b)]) hx hb dL_law_1989 hl (by decide) rfl (fun ls hl => ?_)
  refine lv_aload_n hx hb dL_law_1991 rfl (lv_at hl 5 rfl) ?_
  obtain ⟨v10, hf11, hk⟩ := b0_s hk
  refine wc_iV0 (rest := []) (As := []) ⟨hx, hb, hml, hown, hts⟩ (fun sz => k_X7_thrown l hfl Z hZ X3 M8 O4 v10 hf11 sz) (cw_RL_163 (args := _) (s := s) hts (Nat.le_of_ble_eq_true rfl) (Nat.le_of_ble_eq_true rfl)) hE hP hK hS (rv_26 hK hP (by decide)) rfl hl.1 rfl (Nat.le_of_ble_eq_true rfl) dL_law_1992 ⟨by show _ ≤ 600006; omega, by show _ ≤ 7302096; omega⟩ (fun H locs hP hS => ?_)
  refine lv_iload hx hb dL_law_1995 (lv_at hl 1 rfl) ?_
  refine lv_icmp_eq (tgt := 2002) hx hb dL_law_1997 (by decide) (fun cz12 => ?_) (fun cz12 => ?_)
  · have hk := it_t cz12 hk
    refine lv_iload hx hb dL_law_2002 (lv_at hl 1 rfl) ?_
    refine lv_if_ne (tgt := 2040) hx hb dL_law_2004 (by decide) (fun cz13 => ?_) (fun cz13 => ?_)
    · have hk := it_f cz13 hk
      refine lv_goto (tgt := 2753) hx hb dL_law_2040 (by decide) ?_
      refine lv_iinc (v := (ix + (4 : Int32))) (lv' := [(5, .int (ix + (4 : Int32))), (7, .float v7), (6, .int v2), (4, .ref (Z.2.2 57 0)), (3, .ref (Z.2.2 56 0)), (2, .ref (Z.2.2 26 0)), (1, .ref (Z.2.2 0 0)), (0, .ref b)]) hx hb dL_law_2753 hl (k := 2) rfl rfl (by decide) rfl (fun ls hl => ?_)
      refine lv_goto (tgt := 28) hx hb dL_law_2756 (by decide) ?_
      refine W.widen (k := cells + 3) (n := slots + 18) (by omega) (by omega) ?_
      exact hrc _ _ _ _ _ _ _ hk hP hS (lv_sub hl [0, 3, 4, 5, 6, 7] rfl)
    · have hk := it_t cz13 hk
      refine lv_aload hx hb dL_law_2007 (lv_at hl 3 rfl) ?_
      refine lv_iconst (v := (0 : Int32)) hx hb dL_law_2009 (by decide) ?_
      refine wa_daload_57 hx hb hK hP (by decide) (by unfold vp_in; decide) dL_law_2010 ?_
      refine lv_fload hx hb dL_law_2011 (lv_at hl 0 rfl) ?_
      obtain ⟨hg14, hk⟩ := gd_s hk
      refine lv_f2d hx hb dL_law_2013 hg14 ?_
      refine lv_dcmp hx hb dL_law_2014 ?_
      refine lv_if_eq (tgt := 2040) hx hb dL_law_2015 (by decide) (fun cz15 => ?_) (fun cz15 => ?_)
      · have hk := it_t cz15 hk
        refine lv_goto (tgt := 2753) hx hb dL_law_2040 (by decide) ?_
        refine lv_iinc (v := (ix + (4 : Int32))) (lv' := [(5, .int (ix + (4 : Int32))), (7, .float v7), (6, .int v2), (4, .ref (Z.2.2 57 0)), (3, .ref (Z.2.2 56 0)), (2, .ref (Z.2.2 26 0)), (1, .ref (Z.2.2 0 0)), (0, .ref b)]) hx hb dL_law_2753 hl (k := 2) rfl rfl (by decide) rfl (fun ls hl => ?_)
        refine lv_goto (tgt := 28) hx hb dL_law_2756 (by decide) ?_
        refine W.widen (k := cells + 3) (n := slots + 18) (by omega) (by omega) ?_
        exact hrc _ _ _ _ _ _ _ hk hP hS (lv_sub hl [0, 3, 4, 5, 6, 7] rfl)
      · have hk := it_f cz15 hk
        refine lv_aload hx hb dL_law_2018 (lv_at hl 3 rfl) ?_
        refine lv_iconst (v := (0 : Int32)) hx hb dL_law_2020 (by decide) ?_
        refine wa_daload_57 hx hb hK hP (by decide) (by unfold vp_in; decide) dL_law_2021 ?_
        refine lv_aload hx hb dL_law_2022 (lv_at hl 3 rfl) ?_
        refine lv_iconst (v := (0 : Int32)) hx hb dL_law_2024 (by decide) ?_
        refine wa_daload_57 hx hb hK hP (by decide) (by unfold vp_in; decide) dL_law_2025 ?_
        refine lv_dcmp hx hb dL_law_2026 ?_
        refine lv_if_eq (tgt := 2038) hx hb dL_law_2027 (by decide) (fun cz16 => ?_) (fun cz16 => ?_)
        · have hk := it_t cz16 hk
          refine lv_iconst (v := (0 : Int32)) hx hb dL_law_2038 (by decide) ?_
          exact nomatch (show none = some _ from hk)
        · have hk := it_f cz16 hk
          refine lv_fload hx hb dL_law_2030 (lv_at hl 0 rfl) ?_
          refine lv_fload hx hb dL_law_2032 (lv_at hl 0 rfl) ?_
          refine lv_fcmp hx hb dL_law_2034 ?_
          refine lv_if_ne (tgt := 2040) hx hb dL_law_2035 (by decide) (fun cz17 => ?_) (fun cz17 => ?_)
          · have hk := it_f cz17 hk
            refine lv_goto (tgt := 2753) hx hb dL_law_2040 (by decide) ?_
            refine lv_iinc (v := (ix + (4 : Int32))) (lv' := [(5, .int (ix + (4 : Int32))), (7, .float v7), (6, .int v2), (4, .ref (Z.2.2 57 0)), (3, .ref (Z.2.2 56 0)), (2, .ref (Z.2.2 26 0)), (1, .ref (Z.2.2 0 0)), (0, .ref b)]) hx hb dL_law_2753 hl (k := 2) rfl rfl (by decide) rfl (fun ls hl => ?_)
            refine lv_goto (tgt := 28) hx hb dL_law_2756 (by decide) ?_
            refine W.widen (k := cells + 3) (n := slots + 18) (by omega) (by omega) ?_
            exact hrc _ _ _ _ _ _ _ hk hP hS (lv_sub hl [0, 3, 4, 5, 6, 7] rfl)
          · have hk := it_t cz17 hk
            refine lv_iconst (v := (0 : Int32)) hx hb dL_law_2038 (by decide) ?_
            exact nomatch (show none = some _ from hk)
  · have hk := it_f cz12 hk
    refine lv_iconst (v := (0 : Int32)) hx hb dL_law_2000 (by decide) ?_
    exact nomatch (show none = some _ from hk)
set_option maxHeartbeats 4000000 in
set_option maxRecDepth 100000 in
theorem law_C32 (hfl : l.stackTraces = false) (hZ : wD Z) (hx : p.tables.exec = Jvm.exec) (hb : c.code = code) (hml : c.maxLocals = 9) (hown : s.vm.findClass RL = some m.cls) (hts : ∀ w ∈ lw_all, w.before #[Value.ref b] s = true) (hE : EV (wA Z s.heap.size) s) (hK : wK Z s) (hX : va_X b L xs s s.heap) (hbl : b < s.heap.size) (hbA : ¬ wA Z s.heap.size b) {rc : Int32 → SS → SS → SS → Option Unit} {cells slots : Nat} (hcc : cells + 3 ≤ 600006) (hss : slots + 18 ≤ 7302096) (hrc : ∀ (ix : Int32) (X M O : SS) (H : Heap) (locs : List Loc) (ls : Array Slot), rc ix X M O = some () → wP Z (X, M, O) H → va_S (wA Z s.heap.size) s.heap H locs → lv_has ls 9 [(5, .int ix), (4, .ref (Z.2.2 57 0)), (3, .ref (Z.2.2 56 0)), (2, .ref (Z.2.2 26 0)), (1, .ref (Z.2.2 0 0)), (0, .ref b)] → W p l e room_1 s m #[Value.ref b] below meth c H locs (cells + 3) (slots + 18) Q (F0 m 28 ls [])) (ix : Int32) (X M O : SS) (H : Heap) (locs : List Loc) (ls : Array Slot) (hk : f_law_C32 xs L ix X M O rc = some ()) (hP : wP Z (X, M, O) H) (hS : va_S (wA Z s.heap.size) s.heap H locs) (hl : lv_has ls 9 [(5, .int ix), (4, .ref (Z.2.2 57 0)), (3, .ref (Z.2.2 56 0)), (2, .ref (Z.2.2 26 0)), (1, .ref (Z.2.2 0 0)), (0, .ref b)]) : W p l e room_1 s m #[Value.ref b] below meth c H locs cells slots Q (F0 m 2043 ls []) := by
  unfold f_law_C32 at hk
  refine lv_aload_n hx hb dL_law_2043 rfl (lv_at hl 4 rfl) ?_
  refine lv_aload_n hx hb dL_law_2044 rfl (lv_at hl 5 rfl) ?_
  refine lv_iload hx hb dL_law_2045 (lv_at hl 0 rfl) ?_
  refine lv_iconst (v := (1 : Int32)) hx hb dL_law_2047 (by decide) ?_
  refine lv_iadd hx hb dL_law_2048 ?_
  obtain ⟨hg1, hk⟩ := gd_s hk
  refine va_sld hx hb hX hbl hbA hS hg1 dL_law_2049 ?_
  refine lv_aload_n hx hb dL_law_2050 rfl (lv_at hl 2 rfl) ?_
  obtain ⟨X3, O4, v2, hf5, hk⟩ := b2_s hk
  refine wc_iSX0 (rest := []) (As := [.ref (Z.2.2 0 0), .int (xs ((ix + (1 : Int32))).toNatClampNeg), .ref (Z.2.2 56 0)]) ⟨hx, hb, hml, hown, hts⟩ (fun sz => k_L_belt l hfl Z hZ X M O (xs ((ix + (1 : Int32))).toNatClampNeg) X3 O4 v2 hf5 sz) (cw_RL_270 (args := _) (s := s) hts (Nat.le_of_ble_eq_true rfl) (Nat.le_of_ble_eq_true rfl)) hE hP hK hS  rfl hl.1 rfl (Nat.le_of_ble_eq_true rfl) dL_law_2051 ⟨by show _ ≤ 600006; omega, by show _ ≤ 7302096; omega⟩ (fun H locs hP hS => ?_)
  refine lv_istore (lv' := [(6, .int v2), (5, .int ix), (4, .ref (Z.2.2 57 0)), (3, .ref (Z.2.2 56 0)), (2, .ref (Z.2.2 26 0)), (1, .ref (Z.2.2 0 0)), (0, .ref b)]) hx hb dL_law_2054 hl (by decide) rfl (fun ls hl => ?_)
  refine lv_aload_n hx hb dL_law_2056 rfl (lv_at hl 4 rfl) ?_
  refine lv_aload_n hx hb dL_law_2057 rfl (lv_at hl 6 rfl) ?_
  refine lv_iload hx hb dL_law_2058 (lv_at hl 1 rfl) ?_
  refine lv_iconst (v := (1 : Int32)) hx hb dL_law_2060 (by decide) ?_
  refine lv_iadd hx hb dL_law_2061 ?_
  obtain ⟨hg6, hk⟩ := gd_s hk
  refine va_sld hx hb hX hbl hbA hS hg6 dL_law_2062 ?_
  obtain ⟨M8, v7, hf9, hk⟩ := b1_s hk
  refine wc_iV0 (rest := []) (As := [.int (xs ((ix + (1 : Int32))).toNatClampNeg)]) ⟨hx, hb, hml, hown, hts⟩ (fun sz => k_X7_belt l hfl Z hZ X3 M O4 (xs ((ix + (1 : Int32))).toNatClampNeg) M8 v7 hf9 sz) (cw_RL_272 (args := _) (s := s) hts (Nat.le_of_ble_eq_true rfl) (Nat.le_of_ble_eq_true rfl)) hE hP hK hS (rv_26 hK hP (by decide)) rfl hl.1 rfl (Nat.le_of_ble_eq_true rfl) dL_law_2063 ⟨by show _ ≤ 600006; omega, by show _ ≤ 7302096; omega⟩ (fun H locs hP hS => ?_)
  refine lv_istore (lv' := [(7, .int v7), (6, .int v2), (5, .int ix), (4, .ref (Z.2.2 57 0)), (3, .ref (Z.2.2 56 0)), (2, .ref (Z.2.2 26 0)), (1, .ref (Z.2.2 0 0)), (0, .ref b)]) hx hb dL_law_2066 hl (by decide) rfl (fun ls hl => ?_)
  refine lv_aload_n hx hb dL_law_2068 rfl (lv_at hl 5 rfl) ?_
  obtain ⟨v10, hf11, hk⟩ := b0_s hk
  refine wc_iV0 (rest := []) (As := []) ⟨hx, hb, hml, hown, hts⟩ (fun sz => k_X7_thrown l hfl Z hZ X3 M8 O4 v10 hf11 sz) (cw_RL_163 (args := _) (s := s) hts (Nat.le_of_ble_eq_true rfl) (Nat.le_of_ble_eq_true rfl)) hE hP hK hS (rv_26 hK hP (by decide)) rfl hl.1 rfl (Nat.le_of_ble_eq_true rfl) dL_law_2069 ⟨by show _ ≤ 600006; omega, by show _ ≤ 7302096; omega⟩ (fun H locs hP hS => ?_)
  refine lv_iload hx hb dL_law_2072 (lv_at hl 1 rfl) ?_
  refine lv_icmp_eq (tgt := 2079) hx hb dL_law_2074 (by decide) (fun cz12 => ?_) (fun cz12 => ?_)
  · have hk := it_t cz12 hk
    refine lv_iload hx hb dL_law_2079 (lv_at hl 1 rfl) ?_
    refine lv_if_ne (tgt := 2096) hx hb dL_law_2081 (by decide) (fun cz13 => ?_) (fun cz13 => ?_)
    · have hk := it_f cz13 hk
      refine lv_goto (tgt := 2753) hx hb dL_law_2096 (by decide) ?_
      refine lv_iinc (v := (ix + (4 : Int32))) (lv' := [(5, .int (ix + (4 : Int32))), (7, .int v7), (6, .int v2), (4, .ref (Z.2.2 57 0)), (3, .ref (Z.2.2 56 0)), (2, .ref (Z.2.2 26 0)), (1, .ref (Z.2.2 0 0)), (0, .ref b)]) hx hb dL_law_2753 hl (k := 2) rfl rfl (by decide) rfl (fun ls hl => ?_)
      refine lv_goto (tgt := 28) hx hb dL_law_2756 (by decide) ?_
      refine W.widen (k := cells + 3) (n := slots + 18) (by omega) (by omega) ?_
      exact hrc _ _ _ _ _ _ _ hk hP hS (lv_sub hl [0, 3, 4, 5, 6, 7] rfl)
    · have hk := it_t cz13 hk
      refine lv_aload_n hx hb dL_law_2084 rfl (lv_at hl 4 rfl) ?_
      refine lv_iconst (v := (0 : Int32)) hx hb dL_law_2085 (by decide) ?_
      refine wa_laload_56 hx hb hK hP (by decide) (by unfold vp_in; decide) dL_law_2086 ?_
      refine lv_iload hx hb dL_law_2087 (lv_at hl 0 rfl) ?_
      refine lv_i2l (v := (v7).toInt64) hx hb dL_law_2089 rfl ?_
      refine W.lcmp hx hb dL_law_2090 ?_
      refine lv_if_eq (tgt := 2096) hx hb dL_law_2091 (by decide) (fun cz14 => ?_) (fun cz14 => ?_)
      · have hk := it_t cz14 hk
        refine lv_goto (tgt := 2753) hx hb dL_law_2096 (by decide) ?_
        refine lv_iinc (v := (ix + (4 : Int32))) (lv' := [(5, .int (ix + (4 : Int32))), (7, .int v7), (6, .int v2), (4, .ref (Z.2.2 57 0)), (3, .ref (Z.2.2 56 0)), (2, .ref (Z.2.2 26 0)), (1, .ref (Z.2.2 0 0)), (0, .ref b)]) hx hb dL_law_2753 hl (k := 2) rfl rfl (by decide) rfl (fun ls hl => ?_)
        refine lv_goto (tgt := 28) hx hb dL_law_2756 (by decide) ?_
        refine W.widen (k := cells + 3) (n := slots + 18) (by omega) (by omega) ?_
        exact hrc _ _ _ _ _ _ _ hk hP hS (lv_sub hl [0, 3, 4, 5, 6, 7] rfl)
      · have hk := it_f cz14 hk
        refine lv_iconst (v := (0 : Int32)) hx hb dL_law_2094 (by decide) ?_
        exact nomatch (show none = some _ from hk)
  · have hk := it_f cz12 hk
    refine lv_iconst (v := (0 : Int32)) hx hb dL_law_2077 (by decide) ?_
    exact nomatch (show none = some _ from hk)
set_option maxHeartbeats 4000000 in
set_option maxRecDepth 100000 in
theorem law_C33 (hfl : l.stackTraces = false) (hZ : wD Z) (hx : p.tables.exec = Jvm.exec) (hb : c.code = code) (hml : c.maxLocals = 9) (hown : s.vm.findClass RL = some m.cls) (hts : ∀ w ∈ lw_all, w.before #[Value.ref b] s = true) (hE : EV (wA Z s.heap.size) s) (hK : wK Z s) (hX : va_X b L xs s s.heap) (hbl : b < s.heap.size) (hbA : ¬ wA Z s.heap.size b) {rc : Int32 → SS → SS → SS → Option Unit} {cells slots : Nat} (hcc : cells + 3 ≤ 600006) (hss : slots + 18 ≤ 7302096) (hrc : ∀ (ix : Int32) (X M O : SS) (H : Heap) (locs : List Loc) (ls : Array Slot), rc ix X M O = some () → wP Z (X, M, O) H → va_S (wA Z s.heap.size) s.heap H locs → lv_has ls 9 [(5, .int ix), (4, .ref (Z.2.2 57 0)), (3, .ref (Z.2.2 56 0)), (2, .ref (Z.2.2 26 0)), (1, .ref (Z.2.2 0 0)), (0, .ref b)] → W p l e room_1 s m #[Value.ref b] below meth c H locs (cells + 3) (slots + 18) Q (F0 m 28 ls [])) (ix : Int32) (X M O : SS) (H : Heap) (locs : List Loc) (ls : Array Slot) (hk : f_law_C33 xs L ix X M O rc = some ()) (hP : wP Z (X, M, O) H) (hS : va_S (wA Z s.heap.size) s.heap H locs) (hl : lv_has ls 9 [(5, .int ix), (4, .ref (Z.2.2 57 0)), (3, .ref (Z.2.2 56 0)), (2, .ref (Z.2.2 26 0)), (1, .ref (Z.2.2 0 0)), (0, .ref b)]) : W p l e room_1 s m #[Value.ref b] below meth c H locs cells slots Q (F0 m 2099 ls []) := by
  unfold f_law_C33 at hk
  refine lv_aload_n hx hb dL_law_2099 rfl (lv_at hl 4 rfl) ?_
  refine lv_aload_n hx hb dL_law_2100 rfl (lv_at hl 5 rfl) ?_
  refine lv_iload hx hb dL_law_2101 (lv_at hl 0 rfl) ?_
  refine lv_iconst (v := (1 : Int32)) hx hb dL_law_2103 (by decide) ?_
  refine lv_iadd hx hb dL_law_2104 ?_
  obtain ⟨hg1, hk⟩ := gd_s hk
  refine va_sld hx hb hX hbl hbA hS hg1 dL_law_2105 ?_
  refine lv_aload_n hx hb dL_law_2106 rfl (lv_at hl 2 rfl) ?_
  obtain ⟨O3, v2, hf4, hk⟩ := b1_s hk
  refine wc_iSX0 (rest := []) (As := [.ref (Z.2.2 0 0), .int (xs ((ix + (1 : Int32))).toNatClampNeg), .ref (Z.2.2 56 0)]) ⟨hx, hb, hml, hown, hts⟩ (fun sz => k_L_honour l hfl Z hZ X M O (xs ((ix + (1 : Int32))).toNatClampNeg) O3 v2 hf4 sz) (cw_RL_273 (args := _) (s := s) hts (Nat.le_of_ble_eq_true rfl) (Nat.le_of_ble_eq_true rfl)) hE hP hK hS  rfl hl.1 rfl (Nat.le_of_ble_eq_true rfl) dL_law_2107 ⟨by show _ ≤ 600006; omega, by show _ ≤ 7302096; omega⟩ (fun H locs hP hS => ?_)
  refine lv_istore (lv' := [(6, .int v2), (5, .int ix), (4, .ref (Z.2.2 57 0)), (3, .ref (Z.2.2 56 0)), (2, .ref (Z.2.2 26 0)), (1, .ref (Z.2.2 0 0)), (0, .ref b)]) hx hb dL_law_2110 hl (by decide) rfl (fun ls hl => ?_)
  refine lv_aload_n hx hb dL_law_2112 rfl (lv_at hl 4 rfl) ?_
  refine lv_aload_n hx hb dL_law_2113 rfl (lv_at hl 6 rfl) ?_
  refine lv_iload hx hb dL_law_2114 (lv_at hl 1 rfl) ?_
  refine lv_iconst (v := (1 : Int32)) hx hb dL_law_2116 (by decide) ?_
  refine lv_iadd hx hb dL_law_2117 ?_
  obtain ⟨hg5, hk⟩ := gd_s hk
  refine va_sld hx hb hX hbl hbA hS hg5 dL_law_2118 ?_
  obtain ⟨M7, v6, hf8, hk⟩ := b1_s hk
  refine wc_iV0 (rest := []) (As := [.int (xs ((ix + (1 : Int32))).toNatClampNeg)]) ⟨hx, hb, hml, hown, hts⟩ (fun sz => k_X7_honour l hfl Z hZ X M O3 (xs ((ix + (1 : Int32))).toNatClampNeg) M7 v6 hf8 sz) (cw_RL_275 (args := _) (s := s) hts (Nat.le_of_ble_eq_true rfl) (Nat.le_of_ble_eq_true rfl)) hE hP hK hS (rv_26 hK hP (by decide)) rfl hl.1 rfl (Nat.le_of_ble_eq_true rfl) dL_law_2119 ⟨by show _ ≤ 600006; omega, by show _ ≤ 7302096; omega⟩ (fun H locs hP hS => ?_)
  refine lv_istore (lv' := [(7, .int v6), (6, .int v2), (5, .int ix), (4, .ref (Z.2.2 57 0)), (3, .ref (Z.2.2 56 0)), (2, .ref (Z.2.2 26 0)), (1, .ref (Z.2.2 0 0)), (0, .ref b)]) hx hb dL_law_2122 hl (by decide) rfl (fun ls hl => ?_)
  refine lv_aload_n hx hb dL_law_2124 rfl (lv_at hl 5 rfl) ?_
  obtain ⟨v9, hf10, hk⟩ := b0_s hk
  refine wc_iV0 (rest := []) (As := []) ⟨hx, hb, hml, hown, hts⟩ (fun sz => k_X7_thrown l hfl Z hZ X M7 O3 v9 hf10 sz) (cw_RL_163 (args := _) (s := s) hts (Nat.le_of_ble_eq_true rfl) (Nat.le_of_ble_eq_true rfl)) hE hP hK hS (rv_26 hK hP (by decide)) rfl hl.1 rfl (Nat.le_of_ble_eq_true rfl) dL_law_2125 ⟨by show _ ≤ 600006; omega, by show _ ≤ 7302096; omega⟩ (fun H locs hP hS => ?_)
  refine lv_iload hx hb dL_law_2128 (lv_at hl 1 rfl) ?_
  refine lv_icmp_eq (tgt := 2135) hx hb dL_law_2130 (by decide) (fun cz11 => ?_) (fun cz11 => ?_)
  · have hk := it_t cz11 hk
    refine lv_iload hx hb dL_law_2135 (lv_at hl 1 rfl) ?_
    refine lv_if_ne (tgt := 2152) hx hb dL_law_2137 (by decide) (fun cz12 => ?_) (fun cz12 => ?_)
    · have hk := it_f cz12 hk
      refine lv_goto (tgt := 2753) hx hb dL_law_2152 (by decide) ?_
      refine lv_iinc (v := (ix + (4 : Int32))) (lv' := [(5, .int (ix + (4 : Int32))), (7, .int v6), (6, .int v2), (4, .ref (Z.2.2 57 0)), (3, .ref (Z.2.2 56 0)), (2, .ref (Z.2.2 26 0)), (1, .ref (Z.2.2 0 0)), (0, .ref b)]) hx hb dL_law_2753 hl (k := 2) rfl rfl (by decide) rfl (fun ls hl => ?_)
      refine lv_goto (tgt := 28) hx hb dL_law_2756 (by decide) ?_
      refine W.widen (k := cells + 3) (n := slots + 18) (by omega) (by omega) ?_
      exact hrc _ _ _ _ _ _ _ hk hP hS (lv_sub hl [0, 3, 4, 5, 6, 7] rfl)
    · have hk := it_t cz12 hk
      refine lv_aload_n hx hb dL_law_2140 rfl (lv_at hl 4 rfl) ?_
      refine lv_iconst (v := (0 : Int32)) hx hb dL_law_2141 (by decide) ?_
      refine wa_laload_56 hx hb hK hP (by decide) (by unfold vp_in; decide) dL_law_2142 ?_
      refine lv_iload hx hb dL_law_2143 (lv_at hl 0 rfl) ?_
      refine lv_i2l (v := (v6).toInt64) hx hb dL_law_2145 rfl ?_
      refine W.lcmp hx hb dL_law_2146 ?_
      refine lv_if_eq (tgt := 2152) hx hb dL_law_2147 (by decide) (fun cz13 => ?_) (fun cz13 => ?_)
      · have hk := it_t cz13 hk
        refine lv_goto (tgt := 2753) hx hb dL_law_2152 (by decide) ?_
        refine lv_iinc (v := (ix + (4 : Int32))) (lv' := [(5, .int (ix + (4 : Int32))), (7, .int v6), (6, .int v2), (4, .ref (Z.2.2 57 0)), (3, .ref (Z.2.2 56 0)), (2, .ref (Z.2.2 26 0)), (1, .ref (Z.2.2 0 0)), (0, .ref b)]) hx hb dL_law_2753 hl (k := 2) rfl rfl (by decide) rfl (fun ls hl => ?_)
        refine lv_goto (tgt := 28) hx hb dL_law_2756 (by decide) ?_
        refine W.widen (k := cells + 3) (n := slots + 18) (by omega) (by omega) ?_
        exact hrc _ _ _ _ _ _ _ hk hP hS (lv_sub hl [0, 3, 4, 5, 6, 7] rfl)
      · have hk := it_f cz13 hk
        refine lv_iconst (v := (0 : Int32)) hx hb dL_law_2150 (by decide) ?_
        exact nomatch (show none = some _ from hk)
  · have hk := it_f cz11 hk
    refine lv_iconst (v := (0 : Int32)) hx hb dL_law_2133 (by decide) ?_
    exact nomatch (show none = some _ from hk)
set_option maxHeartbeats 4000000 in
set_option maxRecDepth 100000 in
theorem law_C34 (hfl : l.stackTraces = false) (hZ : wD Z) (hx : p.tables.exec = Jvm.exec) (hb : c.code = code) (hml : c.maxLocals = 9) (hown : s.vm.findClass RL = some m.cls) (hts : ∀ w ∈ lw_all, w.before #[Value.ref b] s = true) (hE : EV (wA Z s.heap.size) s) (hK : wK Z s) (hX : va_X b L xs s s.heap) (hbl : b < s.heap.size) (hbA : ¬ wA Z s.heap.size b) {rc : Int32 → SS → SS → SS → Option Unit} {cells slots : Nat} (hcc : cells + 3 ≤ 600006) (hss : slots + 18 ≤ 7302096) (hrc : ∀ (ix : Int32) (X M O : SS) (H : Heap) (locs : List Loc) (ls : Array Slot), rc ix X M O = some () → wP Z (X, M, O) H → va_S (wA Z s.heap.size) s.heap H locs → lv_has ls 9 [(5, .int ix), (4, .ref (Z.2.2 57 0)), (3, .ref (Z.2.2 56 0)), (2, .ref (Z.2.2 26 0)), (1, .ref (Z.2.2 0 0)), (0, .ref b)] → W p l e room_1 s m #[Value.ref b] below meth c H locs (cells + 3) (slots + 18) Q (F0 m 28 ls [])) (ix : Int32) (X M O : SS) (H : Heap) (locs : List Loc) (ls : Array Slot) (hk : f_law_C34 xs L ix X M O rc = some ()) (hP : wP Z (X, M, O) H) (hS : va_S (wA Z s.heap.size) s.heap H locs) (hl : lv_has ls 9 [(5, .int ix), (4, .ref (Z.2.2 57 0)), (3, .ref (Z.2.2 56 0)), (2, .ref (Z.2.2 26 0)), (1, .ref (Z.2.2 0 0)), (0, .ref b)]) : W p l e room_1 s m #[Value.ref b] below meth c H locs cells slots Q (F0 m 2155 ls []) := by
  unfold f_law_C34 at hk
  refine lv_aload_n hx hb dL_law_2155 rfl (lv_at hl 4 rfl) ?_
  refine lv_aload_n hx hb dL_law_2156 rfl (lv_at hl 5 rfl) ?_
  refine lv_iload hx hb dL_law_2157 (lv_at hl 0 rfl) ?_
  refine lv_iconst (v := (1 : Int32)) hx hb dL_law_2159 (by decide) ?_
  refine lv_iadd hx hb dL_law_2160 ?_
  obtain ⟨hg1, hk⟩ := gd_s hk
  refine va_sld hx hb hX hbl hbA hS hg1 dL_law_2161 ?_
  refine lv_aload_n hx hb dL_law_2162 rfl (lv_at hl 2 rfl) ?_
  obtain ⟨X3, O4, v2, hf5, hk⟩ := b2_s hk
  refine wc_iSX0 (rest := []) (As := [.ref (Z.2.2 0 0), .int (xs ((ix + (1 : Int32))).toNatClampNeg), .ref (Z.2.2 56 0)]) ⟨hx, hb, hml, hown, hts⟩ (fun sz => k_L_ranked l hfl Z hZ X M O (xs ((ix + (1 : Int32))).toNatClampNeg) X3 O4 v2 hf5 sz) (cw_RL_276 (args := _) (s := s) hts (Nat.le_of_ble_eq_true rfl) (Nat.le_of_ble_eq_true rfl)) hE hP hK hS  rfl hl.1 rfl (Nat.le_of_ble_eq_true rfl) dL_law_2163 ⟨by show _ ≤ 600006; omega, by show _ ≤ 7302096; omega⟩ (fun H locs hP hS => ?_)
  refine lv_istore (lv' := [(6, .int v2), (5, .int ix), (4, .ref (Z.2.2 57 0)), (3, .ref (Z.2.2 56 0)), (2, .ref (Z.2.2 26 0)), (1, .ref (Z.2.2 0 0)), (0, .ref b)]) hx hb dL_law_2166 hl (by decide) rfl (fun ls hl => ?_)
  refine lv_aload_n hx hb dL_law_2168 rfl (lv_at hl 4 rfl) ?_
  refine lv_aload_n hx hb dL_law_2169 rfl (lv_at hl 6 rfl) ?_
  refine lv_iload hx hb dL_law_2170 (lv_at hl 1 rfl) ?_
  refine lv_iconst (v := (1 : Int32)) hx hb dL_law_2172 (by decide) ?_
  refine lv_iadd hx hb dL_law_2173 ?_
  obtain ⟨hg6, hk⟩ := gd_s hk
  refine va_sld hx hb hX hbl hbA hS hg6 dL_law_2174 ?_
  obtain ⟨M8, v7, hf9, hk⟩ := b1_s hk
  refine wc_iV0 (rest := []) (As := [.int (xs ((ix + (1 : Int32))).toNatClampNeg)]) ⟨hx, hb, hml, hown, hts⟩ (fun sz => k_X7_ranked l hfl Z hZ X3 M O4 (xs ((ix + (1 : Int32))).toNatClampNeg) M8 v7 hf9 sz) (cw_RL_278 (args := _) (s := s) hts (Nat.le_of_ble_eq_true rfl) (Nat.le_of_ble_eq_true rfl)) hE hP hK hS (rv_26 hK hP (by decide)) rfl hl.1 rfl (Nat.le_of_ble_eq_true rfl) dL_law_2175 ⟨by show _ ≤ 600006; omega, by show _ ≤ 7302096; omega⟩ (fun H locs hP hS => ?_)
  refine lv_istore (lv' := [(7, .int v7), (6, .int v2), (5, .int ix), (4, .ref (Z.2.2 57 0)), (3, .ref (Z.2.2 56 0)), (2, .ref (Z.2.2 26 0)), (1, .ref (Z.2.2 0 0)), (0, .ref b)]) hx hb dL_law_2178 hl (by decide) rfl (fun ls hl => ?_)
  refine lv_aload_n hx hb dL_law_2180 rfl (lv_at hl 5 rfl) ?_
  obtain ⟨v10, hf11, hk⟩ := b0_s hk
  refine wc_iV0 (rest := []) (As := []) ⟨hx, hb, hml, hown, hts⟩ (fun sz => k_X7_thrown l hfl Z hZ X3 M8 O4 v10 hf11 sz) (cw_RL_163 (args := _) (s := s) hts (Nat.le_of_ble_eq_true rfl) (Nat.le_of_ble_eq_true rfl)) hE hP hK hS (rv_26 hK hP (by decide)) rfl hl.1 rfl (Nat.le_of_ble_eq_true rfl) dL_law_2181 ⟨by show _ ≤ 600006; omega, by show _ ≤ 7302096; omega⟩ (fun H locs hP hS => ?_)
  refine lv_iload hx hb dL_law_2184 (lv_at hl 1 rfl) ?_
  refine lv_icmp_eq (tgt := 2191) hx hb dL_law_2186 (by decide) (fun cz12 => ?_) (fun cz12 => ?_)
  · have hk := it_t cz12 hk
    refine lv_iload hx hb dL_law_2191 (lv_at hl 1 rfl) ?_
    refine lv_if_ne (tgt := 2208) hx hb dL_law_2193 (by decide) (fun cz13 => ?_) (fun cz13 => ?_)
    · have hk := it_f cz13 hk
      refine lv_goto (tgt := 2753) hx hb dL_law_2208 (by decide) ?_
      refine lv_iinc (v := (ix + (4 : Int32))) (lv' := [(5, .int (ix + (4 : Int32))), (7, .int v7), (6, .int v2), (4, .ref (Z.2.2 57 0)), (3, .ref (Z.2.2 56 0)), (2, .ref (Z.2.2 26 0)), (1, .ref (Z.2.2 0 0)), (0, .ref b)]) hx hb dL_law_2753 hl (k := 2) rfl rfl (by decide) rfl (fun ls hl => ?_)
      refine lv_goto (tgt := 28) hx hb dL_law_2756 (by decide) ?_
      refine W.widen (k := cells + 3) (n := slots + 18) (by omega) (by omega) ?_
      exact hrc _ _ _ _ _ _ _ hk hP hS (lv_sub hl [0, 3, 4, 5, 6, 7] rfl)
    · have hk := it_t cz13 hk
      refine lv_aload_n hx hb dL_law_2196 rfl (lv_at hl 4 rfl) ?_
      refine lv_iconst (v := (0 : Int32)) hx hb dL_law_2197 (by decide) ?_
      refine wa_laload_56 hx hb hK hP (by decide) (by unfold vp_in; decide) dL_law_2198 ?_
      refine lv_iload hx hb dL_law_2199 (lv_at hl 0 rfl) ?_
      refine lv_i2l (v := (v7).toInt64) hx hb dL_law_2201 rfl ?_
      refine W.lcmp hx hb dL_law_2202 ?_
      refine lv_if_eq (tgt := 2208) hx hb dL_law_2203 (by decide) (fun cz14 => ?_) (fun cz14 => ?_)
      · have hk := it_t cz14 hk
        refine lv_goto (tgt := 2753) hx hb dL_law_2208 (by decide) ?_
        refine lv_iinc (v := (ix + (4 : Int32))) (lv' := [(5, .int (ix + (4 : Int32))), (7, .int v7), (6, .int v2), (4, .ref (Z.2.2 57 0)), (3, .ref (Z.2.2 56 0)), (2, .ref (Z.2.2 26 0)), (1, .ref (Z.2.2 0 0)), (0, .ref b)]) hx hb dL_law_2753 hl (k := 2) rfl rfl (by decide) rfl (fun ls hl => ?_)
        refine lv_goto (tgt := 28) hx hb dL_law_2756 (by decide) ?_
        refine W.widen (k := cells + 3) (n := slots + 18) (by omega) (by omega) ?_
        exact hrc _ _ _ _ _ _ _ hk hP hS (lv_sub hl [0, 3, 4, 5, 6, 7] rfl)
      · have hk := it_f cz14 hk
        refine lv_iconst (v := (0 : Int32)) hx hb dL_law_2206 (by decide) ?_
        exact nomatch (show none = some _ from hk)
  · have hk := it_f cz12 hk
    refine lv_iconst (v := (0 : Int32)) hx hb dL_law_2189 (by decide) ?_
    exact nomatch (show none = some _ from hk)
set_option maxHeartbeats 4000000 in
set_option maxRecDepth 100000 in
theorem law_C35 (hfl : l.stackTraces = false) (hZ : wD Z) (hx : p.tables.exec = Jvm.exec) (hb : c.code = code) (hml : c.maxLocals = 9) (hown : s.vm.findClass RL = some m.cls) (hts : ∀ w ∈ lw_all, w.before #[Value.ref b] s = true) (hE : EV (wA Z s.heap.size) s) (hK : wK Z s) (hX : va_X b L xs s s.heap) (hbl : b < s.heap.size) (hbA : ¬ wA Z s.heap.size b) {rc : Int32 → SS → SS → SS → Option Unit} {cells slots : Nat} (hcc : cells + 3 ≤ 600006) (hss : slots + 18 ≤ 7302096) (hrc : ∀ (ix : Int32) (X M O : SS) (H : Heap) (locs : List Loc) (ls : Array Slot), rc ix X M O = some () → wP Z (X, M, O) H → va_S (wA Z s.heap.size) s.heap H locs → lv_has ls 9 [(5, .int ix), (4, .ref (Z.2.2 57 0)), (3, .ref (Z.2.2 56 0)), (2, .ref (Z.2.2 26 0)), (1, .ref (Z.2.2 0 0)), (0, .ref b)] → W p l e room_1 s m #[Value.ref b] below meth c H locs (cells + 3) (slots + 18) Q (F0 m 28 ls [])) (ix : Int32) (X M O : SS) (H : Heap) (locs : List Loc) (ls : Array Slot) (hk : f_law_C35 xs L ix X M O rc = some ()) (hP : wP Z (X, M, O) H) (hS : va_S (wA Z s.heap.size) s.heap H locs) (hl : lv_has ls 9 [(5, .int ix), (4, .ref (Z.2.2 57 0)), (3, .ref (Z.2.2 56 0)), (2, .ref (Z.2.2 26 0)), (1, .ref (Z.2.2 0 0)), (0, .ref b)]) : W p l e room_1 s m #[Value.ref b] below meth c H locs cells slots Q (F0 m 2211 ls []) := by
  unfold f_law_C35 at hk
  refine lv_aload_n hx hb dL_law_2211 rfl (lv_at hl 4 rfl) ?_
  refine lv_aload_n hx hb dL_law_2212 rfl (lv_at hl 5 rfl) ?_
  refine lv_iload hx hb dL_law_2213 (lv_at hl 0 rfl) ?_
  refine lv_iconst (v := (1 : Int32)) hx hb dL_law_2215 (by decide) ?_
  refine lv_iadd hx hb dL_law_2216 ?_
  obtain ⟨hg1, hk⟩ := gd_s hk
  refine va_sld hx hb hX hbl hbA hS hg1 dL_law_2217 ?_
  refine lv_aload_n hx hb dL_law_2218 rfl (lv_at hl 5 rfl) ?_
  refine lv_iload hx hb dL_law_2219 (lv_at hl 0 rfl) ?_
  refine lv_iconst (v := (2 : Int32)) hx hb dL_law_2221 (by decide) ?_
  refine lv_iadd hx hb dL_law_2222 ?_
  obtain ⟨hg2, hk⟩ := gd_s hk
  refine va_sld hx hb hX hbl hbA hS hg2 dL_law_2223 ?_
  refine lv_aload_n hx hb dL_law_2224 rfl (lv_at hl 2 rfl) ?_
  obtain ⟨X4, O5, v3, hf6, hk⟩ := b2_s hk
  refine wc_iSX0 (rest := []) (As := [.ref (Z.2.2 0 0), .int (xs ((ix + (1 : Int32))).toNatClampNeg), .int (xs ((ix + (2 : Int32))).toNatClampNeg), .ref (Z.2.2 56 0)]) ⟨hx, hb, hml, hown, hts⟩ (fun sz => k_L_challenge l hfl Z hZ X M O (xs ((ix + (1 : Int32))).toNatClampNeg) (xs ((ix + (2 : Int32))).toNatClampNeg) X4 O5 v3 hf6 sz) (cw_RL_279 (args := _) (s := s) hts (Nat.le_of_ble_eq_true rfl) (Nat.le_of_ble_eq_true rfl)) hE hP hK hS  rfl hl.1 rfl (Nat.le_of_ble_eq_true rfl) dL_law_2225 ⟨by show _ ≤ 600006; omega, by show _ ≤ 7302096; omega⟩ (fun H locs hP hS => ?_)
  refine lv_istore (lv' := [(6, .int v3), (5, .int ix), (4, .ref (Z.2.2 57 0)), (3, .ref (Z.2.2 56 0)), (2, .ref (Z.2.2 26 0)), (1, .ref (Z.2.2 0 0)), (0, .ref b)]) hx hb dL_law_2228 hl (by decide) rfl (fun ls hl => ?_)
  refine lv_aload_n hx hb dL_law_2230 rfl (lv_at hl 4 rfl) ?_
  refine lv_aload_n hx hb dL_law_2231 rfl (lv_at hl 6 rfl) ?_
  refine lv_iload hx hb dL_law_2232 (lv_at hl 1 rfl) ?_
  refine lv_iconst (v := (1 : Int32)) hx hb dL_law_2234 (by decide) ?_
  refine lv_iadd hx hb dL_law_2235 ?_
  obtain ⟨hg7, hk⟩ := gd_s hk
  refine va_sld hx hb hX hbl hbA hS hg7 dL_law_2236 ?_
  refine lv_aload_n hx hb dL_law_2237 rfl (lv_at hl 6 rfl) ?_
  refine lv_iload hx hb dL_law_2238 (lv_at hl 1 rfl) ?_
  refine lv_iconst (v := (2 : Int32)) hx hb dL_law_2240 (by decide) ?_
  refine lv_iadd hx hb dL_law_2241 ?_
  obtain ⟨hg8, hk⟩ := gd_s hk
  refine va_sld hx hb hX hbl hbA hS hg8 dL_law_2242 ?_
  obtain ⟨M10, v9, hf11, hk⟩ := b1_s hk
  refine wc_iV0 (rest := []) (As := [.int (xs ((ix + (1 : Int32))).toNatClampNeg), .int (xs ((ix + (2 : Int32))).toNatClampNeg)]) ⟨hx, hb, hml, hown, hts⟩ (fun sz => k_X7_challenge l hfl Z hZ X4 M O5 (xs ((ix + (1 : Int32))).toNatClampNeg) (xs ((ix + (2 : Int32))).toNatClampNeg) M10 v9 hf11 sz) (cw_RL_281 (args := _) (s := s) hts (Nat.le_of_ble_eq_true rfl) (Nat.le_of_ble_eq_true rfl)) hE hP hK hS (rv_26 hK hP (by decide)) rfl hl.1 rfl (Nat.le_of_ble_eq_true rfl) dL_law_2243 ⟨by show _ ≤ 600006; omega, by show _ ≤ 7302096; omega⟩ (fun H locs hP hS => ?_)
  refine lv_istore (lv' := [(7, .int v9), (6, .int v3), (5, .int ix), (4, .ref (Z.2.2 57 0)), (3, .ref (Z.2.2 56 0)), (2, .ref (Z.2.2 26 0)), (1, .ref (Z.2.2 0 0)), (0, .ref b)]) hx hb dL_law_2246 hl (by decide) rfl (fun ls hl => ?_)
  refine lv_aload_n hx hb dL_law_2248 rfl (lv_at hl 5 rfl) ?_
  obtain ⟨v12, hf13, hk⟩ := b0_s hk
  refine wc_iV0 (rest := []) (As := []) ⟨hx, hb, hml, hown, hts⟩ (fun sz => k_X7_thrown l hfl Z hZ X4 M10 O5 v12 hf13 sz) (cw_RL_163 (args := _) (s := s) hts (Nat.le_of_ble_eq_true rfl) (Nat.le_of_ble_eq_true rfl)) hE hP hK hS (rv_26 hK hP (by decide)) rfl hl.1 rfl (Nat.le_of_ble_eq_true rfl) dL_law_2249 ⟨by show _ ≤ 600006; omega, by show _ ≤ 7302096; omega⟩ (fun H locs hP hS => ?_)
  refine lv_iload hx hb dL_law_2252 (lv_at hl 1 rfl) ?_
  refine lv_icmp_eq (tgt := 2259) hx hb dL_law_2254 (by decide) (fun cz14 => ?_) (fun cz14 => ?_)
  · have hk := it_t cz14 hk
    refine lv_iload hx hb dL_law_2259 (lv_at hl 1 rfl) ?_
    refine lv_if_ne (tgt := 2276) hx hb dL_law_2261 (by decide) (fun cz15 => ?_) (fun cz15 => ?_)
    · have hk := it_f cz15 hk
      refine lv_goto (tgt := 2753) hx hb dL_law_2276 (by decide) ?_
      refine lv_iinc (v := (ix + (4 : Int32))) (lv' := [(5, .int (ix + (4 : Int32))), (7, .int v9), (6, .int v3), (4, .ref (Z.2.2 57 0)), (3, .ref (Z.2.2 56 0)), (2, .ref (Z.2.2 26 0)), (1, .ref (Z.2.2 0 0)), (0, .ref b)]) hx hb dL_law_2753 hl (k := 2) rfl rfl (by decide) rfl (fun ls hl => ?_)
      refine lv_goto (tgt := 28) hx hb dL_law_2756 (by decide) ?_
      refine W.widen (k := cells + 3) (n := slots + 18) (by omega) (by omega) ?_
      exact hrc _ _ _ _ _ _ _ hk hP hS (lv_sub hl [0, 3, 4, 5, 6, 7] rfl)
    · have hk := it_t cz15 hk
      refine lv_aload_n hx hb dL_law_2264 rfl (lv_at hl 4 rfl) ?_
      refine lv_iconst (v := (0 : Int32)) hx hb dL_law_2265 (by decide) ?_
      refine wa_laload_56 hx hb hK hP (by decide) (by unfold vp_in; decide) dL_law_2266 ?_
      refine lv_iload hx hb dL_law_2267 (lv_at hl 0 rfl) ?_
      refine lv_i2l (v := (v9).toInt64) hx hb dL_law_2269 rfl ?_
      refine W.lcmp hx hb dL_law_2270 ?_
      refine lv_if_eq (tgt := 2276) hx hb dL_law_2271 (by decide) (fun cz16 => ?_) (fun cz16 => ?_)
      · have hk := it_t cz16 hk
        refine lv_goto (tgt := 2753) hx hb dL_law_2276 (by decide) ?_
        refine lv_iinc (v := (ix + (4 : Int32))) (lv' := [(5, .int (ix + (4 : Int32))), (7, .int v9), (6, .int v3), (4, .ref (Z.2.2 57 0)), (3, .ref (Z.2.2 56 0)), (2, .ref (Z.2.2 26 0)), (1, .ref (Z.2.2 0 0)), (0, .ref b)]) hx hb dL_law_2753 hl (k := 2) rfl rfl (by decide) rfl (fun ls hl => ?_)
        refine lv_goto (tgt := 28) hx hb dL_law_2756 (by decide) ?_
        refine W.widen (k := cells + 3) (n := slots + 18) (by omega) (by omega) ?_
        exact hrc _ _ _ _ _ _ _ hk hP hS (lv_sub hl [0, 3, 4, 5, 6, 7] rfl)
      · have hk := it_f cz16 hk
        refine lv_iconst (v := (0 : Int32)) hx hb dL_law_2274 (by decide) ?_
        exact nomatch (show none = some _ from hk)
  · have hk := it_f cz14 hk
    refine lv_iconst (v := (0 : Int32)) hx hb dL_law_2257 (by decide) ?_
    exact nomatch (show none = some _ from hk)
set_option maxHeartbeats 4000000 in
set_option maxRecDepth 100000 in
theorem law_C36 (hfl : l.stackTraces = false) (hZ : wD Z) (hx : p.tables.exec = Jvm.exec) (hb : c.code = code) (hml : c.maxLocals = 9) (hown : s.vm.findClass RL = some m.cls) (hts : ∀ w ∈ lw_all, w.before #[Value.ref b] s = true) (hE : EV (wA Z s.heap.size) s) (hK : wK Z s) (hX : va_X b L xs s s.heap) (hbl : b < s.heap.size) (hbA : ¬ wA Z s.heap.size b) {rc : Int32 → SS → SS → SS → Option Unit} {cells slots : Nat} (hcc : cells + 3 ≤ 600006) (hss : slots + 18 ≤ 7302096) (hrc : ∀ (ix : Int32) (X M O : SS) (H : Heap) (locs : List Loc) (ls : Array Slot), rc ix X M O = some () → wP Z (X, M, O) H → va_S (wA Z s.heap.size) s.heap H locs → lv_has ls 9 [(5, .int ix), (4, .ref (Z.2.2 57 0)), (3, .ref (Z.2.2 56 0)), (2, .ref (Z.2.2 26 0)), (1, .ref (Z.2.2 0 0)), (0, .ref b)] → W p l e room_1 s m #[Value.ref b] below meth c H locs (cells + 3) (slots + 18) Q (F0 m 28 ls [])) (ix : Int32) (X M O : SS) (H : Heap) (locs : List Loc) (ls : Array Slot) (hk : f_law_C36 xs L ix X M O rc = some ()) (hP : wP Z (X, M, O) H) (hS : va_S (wA Z s.heap.size) s.heap H locs) (hl : lv_has ls 9 [(5, .int ix), (4, .ref (Z.2.2 57 0)), (3, .ref (Z.2.2 56 0)), (2, .ref (Z.2.2 26 0)), (1, .ref (Z.2.2 0 0)), (0, .ref b)]) : W p l e room_1 s m #[Value.ref b] below meth c H locs cells slots Q (F0 m 2279 ls []) := by
  unfold f_law_C36 at hk
  refine lv_aload_n hx hb dL_law_2279 rfl (lv_at hl 4 rfl) ?_
  refine lv_aload_n hx hb dL_law_2280 rfl (lv_at hl 5 rfl) ?_
  refine lv_iload hx hb dL_law_2281 (lv_at hl 0 rfl) ?_
  refine lv_iconst (v := (1 : Int32)) hx hb dL_law_2283 (by decide) ?_
  refine lv_iadd hx hb dL_law_2284 ?_
  obtain ⟨hg1, hk⟩ := gd_s hk
  refine va_sld hx hb hX hbl hbA hS hg1 dL_law_2285 ?_
  refine lv_aload_n hx hb dL_law_2286 rfl (lv_at hl 5 rfl) ?_
  refine lv_iload hx hb dL_law_2287 (lv_at hl 0 rfl) ?_
  refine lv_iconst (v := (2 : Int32)) hx hb dL_law_2289 (by decide) ?_
  refine lv_iadd hx hb dL_law_2290 ?_
  obtain ⟨hg2, hk⟩ := gd_s hk
  refine va_sld hx hb hX hbl hbA hS hg2 dL_law_2291 ?_
  refine lv_aload_n hx hb dL_law_2292 rfl (lv_at hl 2 rfl) ?_
  obtain ⟨X4, O5, v3, hf6, hk⟩ := b2_s hk
  refine wc_iSX0 (rest := []) (As := [.ref (Z.2.2 0 0), .int (xs ((ix + (1 : Int32))).toNatClampNeg), .int (xs ((ix + (2 : Int32))).toNatClampNeg), .ref (Z.2.2 56 0)]) ⟨hx, hb, hml, hown, hts⟩ (fun sz => k_L_give l hfl Z hZ X M O (xs ((ix + (1 : Int32))).toNatClampNeg) (xs ((ix + (2 : Int32))).toNatClampNeg) X4 O5 v3 hf6 sz) (cw_RL_282 (args := _) (s := s) hts (Nat.le_of_ble_eq_true rfl) (Nat.le_of_ble_eq_true rfl)) hE hP hK hS  rfl hl.1 rfl (Nat.le_of_ble_eq_true rfl) dL_law_2293 ⟨by show _ ≤ 600006; omega, by show _ ≤ 7302096; omega⟩ (fun H locs hP hS => ?_)
  refine lv_istore (lv' := [(6, .int v3), (5, .int ix), (4, .ref (Z.2.2 57 0)), (3, .ref (Z.2.2 56 0)), (2, .ref (Z.2.2 26 0)), (1, .ref (Z.2.2 0 0)), (0, .ref b)]) hx hb dL_law_2296 hl (by decide) rfl (fun ls hl => ?_)
  refine lv_aload_n hx hb dL_law_2298 rfl (lv_at hl 4 rfl) ?_
  refine lv_aload_n hx hb dL_law_2299 rfl (lv_at hl 6 rfl) ?_
  refine lv_iload hx hb dL_law_2300 (lv_at hl 1 rfl) ?_
  refine lv_iconst (v := (1 : Int32)) hx hb dL_law_2302 (by decide) ?_
  refine lv_iadd hx hb dL_law_2303 ?_
  obtain ⟨hg7, hk⟩ := gd_s hk
  refine va_sld hx hb hX hbl hbA hS hg7 dL_law_2304 ?_
  refine lv_aload_n hx hb dL_law_2305 rfl (lv_at hl 6 rfl) ?_
  refine lv_iload hx hb dL_law_2306 (lv_at hl 1 rfl) ?_
  refine lv_iconst (v := (2 : Int32)) hx hb dL_law_2308 (by decide) ?_
  refine lv_iadd hx hb dL_law_2309 ?_
  obtain ⟨hg8, hk⟩ := gd_s hk
  refine va_sld hx hb hX hbl hbA hS hg8 dL_law_2310 ?_
  obtain ⟨M10, v9, hf11, hk⟩ := b1_s hk
  refine wc_iV0 (rest := []) (As := [.int (xs ((ix + (1 : Int32))).toNatClampNeg), .int (xs ((ix + (2 : Int32))).toNatClampNeg)]) ⟨hx, hb, hml, hown, hts⟩ (fun sz => k_X7_give l hfl Z hZ X4 M O5 (xs ((ix + (1 : Int32))).toNatClampNeg) (xs ((ix + (2 : Int32))).toNatClampNeg) M10 v9 hf11 sz) (cw_RL_284 (args := _) (s := s) hts (Nat.le_of_ble_eq_true rfl) (Nat.le_of_ble_eq_true rfl)) hE hP hK hS (rv_26 hK hP (by decide)) rfl hl.1 rfl (Nat.le_of_ble_eq_true rfl) dL_law_2311 ⟨by show _ ≤ 600006; omega, by show _ ≤ 7302096; omega⟩ (fun H locs hP hS => ?_)
  refine lv_istore (lv' := [(7, .int v9), (6, .int v3), (5, .int ix), (4, .ref (Z.2.2 57 0)), (3, .ref (Z.2.2 56 0)), (2, .ref (Z.2.2 26 0)), (1, .ref (Z.2.2 0 0)), (0, .ref b)]) hx hb dL_law_2314 hl (by decide) rfl (fun ls hl => ?_)
  refine lv_aload_n hx hb dL_law_2316 rfl (lv_at hl 5 rfl) ?_
  obtain ⟨v12, hf13, hk⟩ := b0_s hk
  refine wc_iV0 (rest := []) (As := []) ⟨hx, hb, hml, hown, hts⟩ (fun sz => k_X7_thrown l hfl Z hZ X4 M10 O5 v12 hf13 sz) (cw_RL_163 (args := _) (s := s) hts (Nat.le_of_ble_eq_true rfl) (Nat.le_of_ble_eq_true rfl)) hE hP hK hS (rv_26 hK hP (by decide)) rfl hl.1 rfl (Nat.le_of_ble_eq_true rfl) dL_law_2317 ⟨by show _ ≤ 600006; omega, by show _ ≤ 7302096; omega⟩ (fun H locs hP hS => ?_)
  refine lv_iload hx hb dL_law_2320 (lv_at hl 1 rfl) ?_
  refine lv_icmp_eq (tgt := 2327) hx hb dL_law_2322 (by decide) (fun cz14 => ?_) (fun cz14 => ?_)
  · have hk := it_t cz14 hk
    refine lv_iload hx hb dL_law_2327 (lv_at hl 1 rfl) ?_
    refine lv_if_ne (tgt := 2344) hx hb dL_law_2329 (by decide) (fun cz15 => ?_) (fun cz15 => ?_)
    · have hk := it_f cz15 hk
      refine lv_goto (tgt := 2753) hx hb dL_law_2344 (by decide) ?_
      refine lv_iinc (v := (ix + (4 : Int32))) (lv' := [(5, .int (ix + (4 : Int32))), (7, .int v9), (6, .int v3), (4, .ref (Z.2.2 57 0)), (3, .ref (Z.2.2 56 0)), (2, .ref (Z.2.2 26 0)), (1, .ref (Z.2.2 0 0)), (0, .ref b)]) hx hb dL_law_2753 hl (k := 2) rfl rfl (by decide) rfl (fun ls hl => ?_)
      refine lv_goto (tgt := 28) hx hb dL_law_2756 (by decide) ?_
      refine W.widen (k := cells + 3) (n := slots + 18) (by omega) (by omega) ?_
      exact hrc _ _ _ _ _ _ _ hk hP hS (lv_sub hl [0, 3, 4, 5, 6, 7] rfl)
    · have hk := it_t cz15 hk
      refine lv_aload_n hx hb dL_law_2332 rfl (lv_at hl 4 rfl) ?_
      refine lv_iconst (v := (0 : Int32)) hx hb dL_law_2333 (by decide) ?_
      refine wa_laload_56 hx hb hK hP (by decide) (by unfold vp_in; decide) dL_law_2334 ?_
      refine lv_iload hx hb dL_law_2335 (lv_at hl 0 rfl) ?_
      refine lv_i2l (v := (v9).toInt64) hx hb dL_law_2337 rfl ?_
      refine W.lcmp hx hb dL_law_2338 ?_
      refine lv_if_eq (tgt := 2344) hx hb dL_law_2339 (by decide) (fun cz16 => ?_) (fun cz16 => ?_)
      · have hk := it_t cz16 hk
        refine lv_goto (tgt := 2753) hx hb dL_law_2344 (by decide) ?_
        refine lv_iinc (v := (ix + (4 : Int32))) (lv' := [(5, .int (ix + (4 : Int32))), (7, .int v9), (6, .int v3), (4, .ref (Z.2.2 57 0)), (3, .ref (Z.2.2 56 0)), (2, .ref (Z.2.2 26 0)), (1, .ref (Z.2.2 0 0)), (0, .ref b)]) hx hb dL_law_2753 hl (k := 2) rfl rfl (by decide) rfl (fun ls hl => ?_)
        refine lv_goto (tgt := 28) hx hb dL_law_2756 (by decide) ?_
        refine W.widen (k := cells + 3) (n := slots + 18) (by omega) (by omega) ?_
        exact hrc _ _ _ _ _ _ _ hk hP hS (lv_sub hl [0, 3, 4, 5, 6, 7] rfl)
      · have hk := it_f cz16 hk
        refine lv_iconst (v := (0 : Int32)) hx hb dL_law_2342 (by decide) ?_
        exact nomatch (show none = some _ from hk)
  · have hk := it_f cz14 hk
    refine lv_iconst (v := (0 : Int32)) hx hb dL_law_2325 (by decide) ?_
    exact nomatch (show none = some _ from hk)
set_option maxHeartbeats 4000000 in
set_option maxRecDepth 100000 in
theorem law_C37 (hfl : l.stackTraces = false) (hZ : wD Z) (hx : p.tables.exec = Jvm.exec) (hb : c.code = code) (hml : c.maxLocals = 9) (hown : s.vm.findClass RL = some m.cls) (hts : ∀ w ∈ lw_all, w.before #[Value.ref b] s = true) (hE : EV (wA Z s.heap.size) s) (hK : wK Z s) (hX : va_X b L xs s s.heap) (hbl : b < s.heap.size) (hbA : ¬ wA Z s.heap.size b) {rc : Int32 → SS → SS → SS → Option Unit} {cells slots : Nat} (hcc : cells + 3 ≤ 600006) (hss : slots + 18 ≤ 7302096) (hrc : ∀ (ix : Int32) (X M O : SS) (H : Heap) (locs : List Loc) (ls : Array Slot), rc ix X M O = some () → wP Z (X, M, O) H → va_S (wA Z s.heap.size) s.heap H locs → lv_has ls 9 [(5, .int ix), (4, .ref (Z.2.2 57 0)), (3, .ref (Z.2.2 56 0)), (2, .ref (Z.2.2 26 0)), (1, .ref (Z.2.2 0 0)), (0, .ref b)] → W p l e room_1 s m #[Value.ref b] below meth c H locs (cells + 3) (slots + 18) Q (F0 m 28 ls [])) (ix : Int32) (X M O : SS) (H : Heap) (locs : List Loc) (ls : Array Slot) (hk : f_law_C37 xs L ix X M O rc = some ()) (hP : wP Z (X, M, O) H) (hS : va_S (wA Z s.heap.size) s.heap H locs) (hl : lv_has ls 9 [(5, .int ix), (4, .ref (Z.2.2 57 0)), (3, .ref (Z.2.2 56 0)), (2, .ref (Z.2.2 26 0)), (1, .ref (Z.2.2 0 0)), (0, .ref b)]) : W p l e room_1 s m #[Value.ref b] below meth c H locs cells slots Q (F0 m 2347 ls []) := by
  unfold f_law_C37 at hk
  refine lv_aload_n hx hb dL_law_2347 rfl (lv_at hl 4 rfl) ?_
  refine lv_aload_n hx hb dL_law_2348 rfl (lv_at hl 5 rfl) ?_
  refine lv_iload hx hb dL_law_2349 (lv_at hl 0 rfl) ?_
  refine lv_iconst (v := (1 : Int32)) hx hb dL_law_2351 (by decide) ?_
  refine lv_iadd hx hb dL_law_2352 ?_
  obtain ⟨hg1, hk⟩ := gd_s hk
  refine va_sld hx hb hX hbl hbA hS hg1 dL_law_2353 ?_
  refine lv_aload_n hx hb dL_law_2354 rfl (lv_at hl 5 rfl) ?_
  refine lv_iload hx hb dL_law_2355 (lv_at hl 0 rfl) ?_
  refine lv_iconst (v := (2 : Int32)) hx hb dL_law_2357 (by decide) ?_
  refine lv_iadd hx hb dL_law_2358 ?_
  obtain ⟨hg2, hk⟩ := gd_s hk
  refine va_sld hx hb hX hbl hbA hS hg2 dL_law_2359 ?_
  refine lv_aload_n hx hb dL_law_2360 rfl (lv_at hl 2 rfl) ?_
  obtain ⟨X4, O5, v3, hf6, hk⟩ := b2_s hk
  refine wc_iSX0 (rest := []) (As := [.ref (Z.2.2 0 0), .int (xs ((ix + (1 : Int32))).toNatClampNeg), .int (xs ((ix + (2 : Int32))).toNatClampNeg), .ref (Z.2.2 56 0)]) ⟨hx, hb, hml, hown, hts⟩ (fun sz => k_L_answer l hfl Z hZ X M O (xs ((ix + (1 : Int32))).toNatClampNeg) (xs ((ix + (2 : Int32))).toNatClampNeg) X4 O5 v3 hf6 sz) (cw_RL_285 (args := _) (s := s) hts (Nat.le_of_ble_eq_true rfl) (Nat.le_of_ble_eq_true rfl)) hE hP hK hS  rfl hl.1 rfl (Nat.le_of_ble_eq_true rfl) dL_law_2361 ⟨by show _ ≤ 600006; omega, by show _ ≤ 7302096; omega⟩ (fun H locs hP hS => ?_)
  refine lv_istore (lv' := [(6, .int v3), (5, .int ix), (4, .ref (Z.2.2 57 0)), (3, .ref (Z.2.2 56 0)), (2, .ref (Z.2.2 26 0)), (1, .ref (Z.2.2 0 0)), (0, .ref b)]) hx hb dL_law_2364 hl (by decide) rfl (fun ls hl => ?_)
  refine lv_aload_n hx hb dL_law_2366 rfl (lv_at hl 4 rfl) ?_
  refine lv_aload_n hx hb dL_law_2367 rfl (lv_at hl 6 rfl) ?_
  refine lv_iload hx hb dL_law_2368 (lv_at hl 1 rfl) ?_
  refine lv_iconst (v := (1 : Int32)) hx hb dL_law_2370 (by decide) ?_
  refine lv_iadd hx hb dL_law_2371 ?_
  obtain ⟨hg7, hk⟩ := gd_s hk
  refine va_sld hx hb hX hbl hbA hS hg7 dL_law_2372 ?_
  refine lv_aload_n hx hb dL_law_2373 rfl (lv_at hl 6 rfl) ?_
  refine lv_iload hx hb dL_law_2374 (lv_at hl 1 rfl) ?_
  refine lv_iconst (v := (2 : Int32)) hx hb dL_law_2376 (by decide) ?_
  refine lv_iadd hx hb dL_law_2377 ?_
  obtain ⟨hg8, hk⟩ := gd_s hk
  refine va_sld hx hb hX hbl hbA hS hg8 dL_law_2378 ?_
  obtain ⟨M10, v9, hf11, hk⟩ := b1_s hk
  refine wc_iV0 (rest := []) (As := [.int (xs ((ix + (1 : Int32))).toNatClampNeg), .int (xs ((ix + (2 : Int32))).toNatClampNeg)]) ⟨hx, hb, hml, hown, hts⟩ (fun sz => k_X7_answer l hfl Z hZ X4 M O5 (xs ((ix + (1 : Int32))).toNatClampNeg) (xs ((ix + (2 : Int32))).toNatClampNeg) M10 v9 hf11 sz) (cw_RL_287 (args := _) (s := s) hts (Nat.le_of_ble_eq_true rfl) (Nat.le_of_ble_eq_true rfl)) hE hP hK hS (rv_26 hK hP (by decide)) rfl hl.1 rfl (Nat.le_of_ble_eq_true rfl) dL_law_2379 ⟨by show _ ≤ 600006; omega, by show _ ≤ 7302096; omega⟩ (fun H locs hP hS => ?_)
  refine lv_istore (lv' := [(7, .int v9), (6, .int v3), (5, .int ix), (4, .ref (Z.2.2 57 0)), (3, .ref (Z.2.2 56 0)), (2, .ref (Z.2.2 26 0)), (1, .ref (Z.2.2 0 0)), (0, .ref b)]) hx hb dL_law_2382 hl (by decide) rfl (fun ls hl => ?_)
  refine lv_aload_n hx hb dL_law_2384 rfl (lv_at hl 5 rfl) ?_
  obtain ⟨v12, hf13, hk⟩ := b0_s hk
  refine wc_iV0 (rest := []) (As := []) ⟨hx, hb, hml, hown, hts⟩ (fun sz => k_X7_thrown l hfl Z hZ X4 M10 O5 v12 hf13 sz) (cw_RL_163 (args := _) (s := s) hts (Nat.le_of_ble_eq_true rfl) (Nat.le_of_ble_eq_true rfl)) hE hP hK hS (rv_26 hK hP (by decide)) rfl hl.1 rfl (Nat.le_of_ble_eq_true rfl) dL_law_2385 ⟨by show _ ≤ 600006; omega, by show _ ≤ 7302096; omega⟩ (fun H locs hP hS => ?_)
  refine lv_iload hx hb dL_law_2388 (lv_at hl 1 rfl) ?_
  refine lv_icmp_eq (tgt := 2395) hx hb dL_law_2390 (by decide) (fun cz14 => ?_) (fun cz14 => ?_)
  · have hk := it_t cz14 hk
    refine lv_iload hx hb dL_law_2395 (lv_at hl 1 rfl) ?_
    refine lv_if_ne (tgt := 2412) hx hb dL_law_2397 (by decide) (fun cz15 => ?_) (fun cz15 => ?_)
    · have hk := it_f cz15 hk
      refine lv_goto (tgt := 2753) hx hb dL_law_2412 (by decide) ?_
      refine lv_iinc (v := (ix + (4 : Int32))) (lv' := [(5, .int (ix + (4 : Int32))), (7, .int v9), (6, .int v3), (4, .ref (Z.2.2 57 0)), (3, .ref (Z.2.2 56 0)), (2, .ref (Z.2.2 26 0)), (1, .ref (Z.2.2 0 0)), (0, .ref b)]) hx hb dL_law_2753 hl (k := 2) rfl rfl (by decide) rfl (fun ls hl => ?_)
      refine lv_goto (tgt := 28) hx hb dL_law_2756 (by decide) ?_
      refine W.widen (k := cells + 3) (n := slots + 18) (by omega) (by omega) ?_
      exact hrc _ _ _ _ _ _ _ hk hP hS (lv_sub hl [0, 3, 4, 5, 6, 7] rfl)
    · have hk := it_t cz15 hk
      refine lv_aload_n hx hb dL_law_2400 rfl (lv_at hl 4 rfl) ?_
      refine lv_iconst (v := (0 : Int32)) hx hb dL_law_2401 (by decide) ?_
      refine wa_laload_56 hx hb hK hP (by decide) (by unfold vp_in; decide) dL_law_2402 ?_
      refine lv_iload hx hb dL_law_2403 (lv_at hl 0 rfl) ?_
      refine lv_i2l (v := (v9).toInt64) hx hb dL_law_2405 rfl ?_
      refine W.lcmp hx hb dL_law_2406 ?_
      refine lv_if_eq (tgt := 2412) hx hb dL_law_2407 (by decide) (fun cz16 => ?_) (fun cz16 => ?_)
      · have hk := it_t cz16 hk
        refine lv_goto (tgt := 2753) hx hb dL_law_2412 (by decide) ?_
        refine lv_iinc (v := (ix + (4 : Int32))) (lv' := [(5, .int (ix + (4 : Int32))), (7, .int v9), (6, .int v3), (4, .ref (Z.2.2 57 0)), (3, .ref (Z.2.2 56 0)), (2, .ref (Z.2.2 26 0)), (1, .ref (Z.2.2 0 0)), (0, .ref b)]) hx hb dL_law_2753 hl (k := 2) rfl rfl (by decide) rfl (fun ls hl => ?_)
        refine lv_goto (tgt := 28) hx hb dL_law_2756 (by decide) ?_
        refine W.widen (k := cells + 3) (n := slots + 18) (by omega) (by omega) ?_
        exact hrc _ _ _ _ _ _ _ hk hP hS (lv_sub hl [0, 3, 4, 5, 6, 7] rfl)
      · have hk := it_f cz16 hk
        refine lv_iconst (v := (0 : Int32)) hx hb dL_law_2410 (by decide) ?_
        exact nomatch (show none = some _ from hk)
  · have hk := it_f cz14 hk
    refine lv_iconst (v := (0 : Int32)) hx hb dL_law_2393 (by decide) ?_
    exact nomatch (show none = some _ from hk)
set_option maxHeartbeats 4000000 in
set_option maxRecDepth 100000 in
theorem law_C38 (hfl : l.stackTraces = false) (hZ : wD Z) (hx : p.tables.exec = Jvm.exec) (hb : c.code = code) (hml : c.maxLocals = 9) (hown : s.vm.findClass RL = some m.cls) (hts : ∀ w ∈ lw_all, w.before #[Value.ref b] s = true) (hE : EV (wA Z s.heap.size) s) (hK : wK Z s) (hX : va_X b L xs s s.heap) (hbl : b < s.heap.size) (hbA : ¬ wA Z s.heap.size b) {rc : Int32 → SS → SS → SS → Option Unit} {cells slots : Nat} (hcc : cells + 3 ≤ 600006) (hss : slots + 18 ≤ 7302096) (hrc : ∀ (ix : Int32) (X M O : SS) (H : Heap) (locs : List Loc) (ls : Array Slot), rc ix X M O = some () → wP Z (X, M, O) H → va_S (wA Z s.heap.size) s.heap H locs → lv_has ls 9 [(5, .int ix), (4, .ref (Z.2.2 57 0)), (3, .ref (Z.2.2 56 0)), (2, .ref (Z.2.2 26 0)), (1, .ref (Z.2.2 0 0)), (0, .ref b)] → W p l e room_1 s m #[Value.ref b] below meth c H locs (cells + 3) (slots + 18) Q (F0 m 28 ls [])) (ix : Int32) (X M O : SS) (H : Heap) (locs : List Loc) (ls : Array Slot) (hk : f_law_C38 xs L ix X M O rc = some ()) (hP : wP Z (X, M, O) H) (hS : va_S (wA Z s.heap.size) s.heap H locs) (hl : lv_has ls 9 [(5, .int ix), (4, .ref (Z.2.2 57 0)), (3, .ref (Z.2.2 56 0)), (2, .ref (Z.2.2 26 0)), (1, .ref (Z.2.2 0 0)), (0, .ref b)]) : W p l e room_1 s m #[Value.ref b] below meth c H locs cells slots Q (F0 m 2415 ls []) := by
  unfold f_law_C38 at hk
  refine lv_aload_n hx hb dL_law_2415 rfl (lv_at hl 4 rfl) ?_
  refine lv_aload_n hx hb dL_law_2416 rfl (lv_at hl 5 rfl) ?_
  refine lv_iload hx hb dL_law_2417 (lv_at hl 0 rfl) ?_
  refine lv_iconst (v := (1 : Int32)) hx hb dL_law_2419 (by decide) ?_
  refine lv_iadd hx hb dL_law_2420 ?_
  obtain ⟨hg1, hk⟩ := gd_s hk
  refine va_sld hx hb hX hbl hbA hS hg1 dL_law_2421 ?_
  refine lv_aload_n hx hb dL_law_2422 rfl (lv_at hl 2 rfl) ?_
  obtain ⟨O3, v2, hf4, hk⟩ := b1_s hk
  refine wc_iSX0 (rest := []) (As := [.ref (Z.2.2 0 0), .int (xs ((ix + (1 : Int32))).toNatClampNeg), .ref (Z.2.2 56 0)]) ⟨hx, hb, hml, hown, hts⟩ (fun sz => k_L_open l hfl Z hZ X M O (xs ((ix + (1 : Int32))).toNatClampNeg) O3 v2 hf4 sz) (cw_RL_288 (args := _) (s := s) hts (Nat.le_of_ble_eq_true rfl) (Nat.le_of_ble_eq_true rfl)) hE hP hK hS  rfl hl.1 rfl (Nat.le_of_ble_eq_true rfl) dL_law_2423 ⟨by show _ ≤ 600006; omega, by show _ ≤ 7302096; omega⟩ (fun H locs hP hS => ?_)
  refine lv_istore (lv' := [(6, .int v2), (5, .int ix), (4, .ref (Z.2.2 57 0)), (3, .ref (Z.2.2 56 0)), (2, .ref (Z.2.2 26 0)), (1, .ref (Z.2.2 0 0)), (0, .ref b)]) hx hb dL_law_2426 hl (by decide) rfl (fun ls hl => ?_)
  refine lv_aload_n hx hb dL_law_2428 rfl (lv_at hl 4 rfl) ?_
  refine lv_aload_n hx hb dL_law_2429 rfl (lv_at hl 6 rfl) ?_
  refine lv_iload hx hb dL_law_2430 (lv_at hl 1 rfl) ?_
  refine lv_iconst (v := (1 : Int32)) hx hb dL_law_2432 (by decide) ?_
  refine lv_iadd hx hb dL_law_2433 ?_
  obtain ⟨hg5, hk⟩ := gd_s hk
  refine va_sld hx hb hX hbl hbA hS hg5 dL_law_2434 ?_
  obtain ⟨M7, v6, hf8, hk⟩ := b1_s hk
  refine wc_iV0 (rest := []) (As := [.int (xs ((ix + (1 : Int32))).toNatClampNeg)]) ⟨hx, hb, hml, hown, hts⟩ (fun sz => k_X7_open l hfl Z hZ X M O3 (xs ((ix + (1 : Int32))).toNatClampNeg) M7 v6 hf8 sz) (cw_RL_290 (args := _) (s := s) hts (Nat.le_of_ble_eq_true rfl) (Nat.le_of_ble_eq_true rfl)) hE hP hK hS (rv_26 hK hP (by decide)) rfl hl.1 rfl (Nat.le_of_ble_eq_true rfl) dL_law_2435 ⟨by show _ ≤ 600006; omega, by show _ ≤ 7302096; omega⟩ (fun H locs hP hS => ?_)
  refine lv_istore (lv' := [(7, .int v6), (6, .int v2), (5, .int ix), (4, .ref (Z.2.2 57 0)), (3, .ref (Z.2.2 56 0)), (2, .ref (Z.2.2 26 0)), (1, .ref (Z.2.2 0 0)), (0, .ref b)]) hx hb dL_law_2438 hl (by decide) rfl (fun ls hl => ?_)
  refine lv_aload_n hx hb dL_law_2440 rfl (lv_at hl 5 rfl) ?_
  obtain ⟨v9, hf10, hk⟩ := b0_s hk
  refine wc_iV0 (rest := []) (As := []) ⟨hx, hb, hml, hown, hts⟩ (fun sz => k_X7_thrown l hfl Z hZ X M7 O3 v9 hf10 sz) (cw_RL_163 (args := _) (s := s) hts (Nat.le_of_ble_eq_true rfl) (Nat.le_of_ble_eq_true rfl)) hE hP hK hS (rv_26 hK hP (by decide)) rfl hl.1 rfl (Nat.le_of_ble_eq_true rfl) dL_law_2441 ⟨by show _ ≤ 600006; omega, by show _ ≤ 7302096; omega⟩ (fun H locs hP hS => ?_)
  refine lv_iload hx hb dL_law_2444 (lv_at hl 1 rfl) ?_
  refine lv_icmp_eq (tgt := 2451) hx hb dL_law_2446 (by decide) (fun cz11 => ?_) (fun cz11 => ?_)
  · have hk := it_t cz11 hk
    refine lv_iload hx hb dL_law_2451 (lv_at hl 1 rfl) ?_
    refine lv_if_ne (tgt := 2468) hx hb dL_law_2453 (by decide) (fun cz12 => ?_) (fun cz12 => ?_)
    · have hk := it_f cz12 hk
      refine lv_goto (tgt := 2753) hx hb dL_law_2468 (by decide) ?_
      refine lv_iinc (v := (ix + (4 : Int32))) (lv' := [(5, .int (ix + (4 : Int32))), (7, .int v6), (6, .int v2), (4, .ref (Z.2.2 57 0)), (3, .ref (Z.2.2 56 0)), (2, .ref (Z.2.2 26 0)), (1, .ref (Z.2.2 0 0)), (0, .ref b)]) hx hb dL_law_2753 hl (k := 2) rfl rfl (by decide) rfl (fun ls hl => ?_)
      refine lv_goto (tgt := 28) hx hb dL_law_2756 (by decide) ?_
      refine W.widen (k := cells + 3) (n := slots + 18) (by omega) (by omega) ?_
      exact hrc _ _ _ _ _ _ _ hk hP hS (lv_sub hl [0, 3, 4, 5, 6, 7] rfl)
    · have hk := it_t cz12 hk
      refine lv_aload_n hx hb dL_law_2456 rfl (lv_at hl 4 rfl) ?_
      refine lv_iconst (v := (0 : Int32)) hx hb dL_law_2457 (by decide) ?_
      refine wa_laload_56 hx hb hK hP (by decide) (by unfold vp_in; decide) dL_law_2458 ?_
      refine lv_iload hx hb dL_law_2459 (lv_at hl 0 rfl) ?_
      refine lv_i2l (v := (v6).toInt64) hx hb dL_law_2461 rfl ?_
      refine W.lcmp hx hb dL_law_2462 ?_
      refine lv_if_eq (tgt := 2468) hx hb dL_law_2463 (by decide) (fun cz13 => ?_) (fun cz13 => ?_)
      · have hk := it_t cz13 hk
        refine lv_goto (tgt := 2753) hx hb dL_law_2468 (by decide) ?_
        refine lv_iinc (v := (ix + (4 : Int32))) (lv' := [(5, .int (ix + (4 : Int32))), (7, .int v6), (6, .int v2), (4, .ref (Z.2.2 57 0)), (3, .ref (Z.2.2 56 0)), (2, .ref (Z.2.2 26 0)), (1, .ref (Z.2.2 0 0)), (0, .ref b)]) hx hb dL_law_2753 hl (k := 2) rfl rfl (by decide) rfl (fun ls hl => ?_)
        refine lv_goto (tgt := 28) hx hb dL_law_2756 (by decide) ?_
        refine W.widen (k := cells + 3) (n := slots + 18) (by omega) (by omega) ?_
        exact hrc _ _ _ _ _ _ _ hk hP hS (lv_sub hl [0, 3, 4, 5, 6, 7] rfl)
      · have hk := it_f cz13 hk
        refine lv_iconst (v := (0 : Int32)) hx hb dL_law_2466 (by decide) ?_
        exact nomatch (show none = some _ from hk)
  · have hk := it_f cz11 hk
    refine lv_iconst (v := (0 : Int32)) hx hb dL_law_2449 (by decide) ?_
    exact nomatch (show none = some _ from hk)
set_option maxHeartbeats 4000000 in
set_option maxRecDepth 100000 in
theorem law_C39 (hfl : l.stackTraces = false) (hZ : wD Z) (hx : p.tables.exec = Jvm.exec) (hb : c.code = code) (hml : c.maxLocals = 9) (hown : s.vm.findClass RL = some m.cls) (hts : ∀ w ∈ lw_all, w.before #[Value.ref b] s = true) (hE : EV (wA Z s.heap.size) s) (hK : wK Z s) (hX : va_X b L xs s s.heap) (hbl : b < s.heap.size) (hbA : ¬ wA Z s.heap.size b) {rc : Int32 → SS → SS → SS → Option Unit} {cells slots : Nat} (hcc : cells + 3 ≤ 600006) (hss : slots + 18 ≤ 7302096) (hrc : ∀ (ix : Int32) (X M O : SS) (H : Heap) (locs : List Loc) (ls : Array Slot), rc ix X M O = some () → wP Z (X, M, O) H → va_S (wA Z s.heap.size) s.heap H locs → lv_has ls 9 [(5, .int ix), (4, .ref (Z.2.2 57 0)), (3, .ref (Z.2.2 56 0)), (2, .ref (Z.2.2 26 0)), (1, .ref (Z.2.2 0 0)), (0, .ref b)] → W p l e room_1 s m #[Value.ref b] below meth c H locs (cells + 3) (slots + 18) Q (F0 m 28 ls [])) (ix : Int32) (X M O : SS) (H : Heap) (locs : List Loc) (ls : Array Slot) (hk : f_law_C39 xs L ix X M O rc = some ()) (hP : wP Z (X, M, O) H) (hS : va_S (wA Z s.heap.size) s.heap H locs) (hl : lv_has ls 9 [(5, .int ix), (4, .ref (Z.2.2 57 0)), (3, .ref (Z.2.2 56 0)), (2, .ref (Z.2.2 26 0)), (1, .ref (Z.2.2 0 0)), (0, .ref b)]) : W p l e room_1 s m #[Value.ref b] below meth c H locs cells slots Q (F0 m 2471 ls []) := by
  unfold f_law_C39 at hk
  refine lv_aload_n hx hb dL_law_2471 rfl (lv_at hl 4 rfl) ?_
  refine lv_aload_n hx hb dL_law_2472 rfl (lv_at hl 5 rfl) ?_
  refine lv_iload hx hb dL_law_2473 (lv_at hl 0 rfl) ?_
  refine lv_iconst (v := (1 : Int32)) hx hb dL_law_2475 (by decide) ?_
  refine lv_iadd hx hb dL_law_2476 ?_
  obtain ⟨hg1, hk⟩ := gd_s hk
  refine va_sld hx hb hX hbl hbA hS hg1 dL_law_2477 ?_
  refine lv_aload_n hx hb dL_law_2478 rfl (lv_at hl 2 rfl) ?_
  obtain ⟨O3, v2, hf4, hk⟩ := b1_s hk
  refine wc_iSX0 (rest := []) (As := [.ref (Z.2.2 0 0), .int (xs ((ix + (1 : Int32))).toNatClampNeg), .ref (Z.2.2 56 0)]) ⟨hx, hb, hml, hown, hts⟩ (fun sz => k_L_left l hfl Z hZ X M O (xs ((ix + (1 : Int32))).toNatClampNeg) O3 v2 hf4 sz) (cw_RL_291 (args := _) (s := s) hts (Nat.le_of_ble_eq_true rfl) (Nat.le_of_ble_eq_true rfl)) hE hP hK hS  rfl hl.1 rfl (Nat.le_of_ble_eq_true rfl) dL_law_2479 ⟨by show _ ≤ 600006; omega, by show _ ≤ 7302096; omega⟩ (fun H locs hP hS => ?_)
  refine lv_istore (lv' := [(6, .int v2), (5, .int ix), (4, .ref (Z.2.2 57 0)), (3, .ref (Z.2.2 56 0)), (2, .ref (Z.2.2 26 0)), (1, .ref (Z.2.2 0 0)), (0, .ref b)]) hx hb dL_law_2482 hl (by decide) rfl (fun ls hl => ?_)
  refine lv_aload_n hx hb dL_law_2484 rfl (lv_at hl 4 rfl) ?_
  refine lv_aload_n hx hb dL_law_2485 rfl (lv_at hl 6 rfl) ?_
  refine lv_iload hx hb dL_law_2486 (lv_at hl 1 rfl) ?_
  refine lv_iconst (v := (1 : Int32)) hx hb dL_law_2488 (by decide) ?_
  refine lv_iadd hx hb dL_law_2489 ?_
  obtain ⟨hg5, hk⟩ := gd_s hk
  refine va_sld hx hb hX hbl hbA hS hg5 dL_law_2490 ?_
  obtain ⟨M7, v6, hf8, hk⟩ := b1_s hk
  refine wc_iV0 (rest := []) (As := [.int (xs ((ix + (1 : Int32))).toNatClampNeg)]) ⟨hx, hb, hml, hown, hts⟩ (fun sz => k_X7_left l hfl Z hZ X M O3 (xs ((ix + (1 : Int32))).toNatClampNeg) M7 v6 hf8 sz) (cw_RL_293 (args := _) (s := s) hts (Nat.le_of_ble_eq_true rfl) (Nat.le_of_ble_eq_true rfl)) hE hP hK hS (rv_26 hK hP (by decide)) rfl hl.1 rfl (Nat.le_of_ble_eq_true rfl) dL_law_2491 ⟨by show _ ≤ 600006; omega, by show _ ≤ 7302096; omega⟩ (fun H locs hP hS => ?_)
  refine lv_istore (lv' := [(7, .int v6), (6, .int v2), (5, .int ix), (4, .ref (Z.2.2 57 0)), (3, .ref (Z.2.2 56 0)), (2, .ref (Z.2.2 26 0)), (1, .ref (Z.2.2 0 0)), (0, .ref b)]) hx hb dL_law_2494 hl (by decide) rfl (fun ls hl => ?_)
  refine lv_aload_n hx hb dL_law_2496 rfl (lv_at hl 5 rfl) ?_
  obtain ⟨v9, hf10, hk⟩ := b0_s hk
  refine wc_iV0 (rest := []) (As := []) ⟨hx, hb, hml, hown, hts⟩ (fun sz => k_X7_thrown l hfl Z hZ X M7 O3 v9 hf10 sz) (cw_RL_163 (args := _) (s := s) hts (Nat.le_of_ble_eq_true rfl) (Nat.le_of_ble_eq_true rfl)) hE hP hK hS (rv_26 hK hP (by decide)) rfl hl.1 rfl (Nat.le_of_ble_eq_true rfl) dL_law_2497 ⟨by show _ ≤ 600006; omega, by show _ ≤ 7302096; omega⟩ (fun H locs hP hS => ?_)
  refine lv_iload hx hb dL_law_2500 (lv_at hl 1 rfl) ?_
  refine lv_icmp_eq (tgt := 2507) hx hb dL_law_2502 (by decide) (fun cz11 => ?_) (fun cz11 => ?_)
  · have hk := it_t cz11 hk
    refine lv_iload hx hb dL_law_2507 (lv_at hl 1 rfl) ?_
    refine lv_if_ne (tgt := 2524) hx hb dL_law_2509 (by decide) (fun cz12 => ?_) (fun cz12 => ?_)
    · have hk := it_f cz12 hk
      refine lv_goto (tgt := 2753) hx hb dL_law_2524 (by decide) ?_
      refine lv_iinc (v := (ix + (4 : Int32))) (lv' := [(5, .int (ix + (4 : Int32))), (7, .int v6), (6, .int v2), (4, .ref (Z.2.2 57 0)), (3, .ref (Z.2.2 56 0)), (2, .ref (Z.2.2 26 0)), (1, .ref (Z.2.2 0 0)), (0, .ref b)]) hx hb dL_law_2753 hl (k := 2) rfl rfl (by decide) rfl (fun ls hl => ?_)
      refine lv_goto (tgt := 28) hx hb dL_law_2756 (by decide) ?_
      refine W.widen (k := cells + 3) (n := slots + 18) (by omega) (by omega) ?_
      exact hrc _ _ _ _ _ _ _ hk hP hS (lv_sub hl [0, 3, 4, 5, 6, 7] rfl)
    · have hk := it_t cz12 hk
      refine lv_aload_n hx hb dL_law_2512 rfl (lv_at hl 4 rfl) ?_
      refine lv_iconst (v := (0 : Int32)) hx hb dL_law_2513 (by decide) ?_
      refine wa_laload_56 hx hb hK hP (by decide) (by unfold vp_in; decide) dL_law_2514 ?_
      refine lv_iload hx hb dL_law_2515 (lv_at hl 0 rfl) ?_
      refine lv_i2l (v := (v6).toInt64) hx hb dL_law_2517 rfl ?_
      refine W.lcmp hx hb dL_law_2518 ?_
      refine lv_if_eq (tgt := 2524) hx hb dL_law_2519 (by decide) (fun cz13 => ?_) (fun cz13 => ?_)
      · have hk := it_t cz13 hk
        refine lv_goto (tgt := 2753) hx hb dL_law_2524 (by decide) ?_
        refine lv_iinc (v := (ix + (4 : Int32))) (lv' := [(5, .int (ix + (4 : Int32))), (7, .int v6), (6, .int v2), (4, .ref (Z.2.2 57 0)), (3, .ref (Z.2.2 56 0)), (2, .ref (Z.2.2 26 0)), (1, .ref (Z.2.2 0 0)), (0, .ref b)]) hx hb dL_law_2753 hl (k := 2) rfl rfl (by decide) rfl (fun ls hl => ?_)
        refine lv_goto (tgt := 28) hx hb dL_law_2756 (by decide) ?_
        refine W.widen (k := cells + 3) (n := slots + 18) (by omega) (by omega) ?_
        exact hrc _ _ _ _ _ _ _ hk hP hS (lv_sub hl [0, 3, 4, 5, 6, 7] rfl)
      · have hk := it_f cz13 hk
        refine lv_iconst (v := (0 : Int32)) hx hb dL_law_2522 (by decide) ?_
        exact nomatch (show none = some _ from hk)
  · have hk := it_f cz11 hk
    refine lv_iconst (v := (0 : Int32)) hx hb dL_law_2505 (by decide) ?_
    exact nomatch (show none = some _ from hk)
set_option maxHeartbeats 4000000 in
set_option maxRecDepth 100000 in
theorem law_C40 (hfl : l.stackTraces = false) (hZ : wD Z) (hx : p.tables.exec = Jvm.exec) (hb : c.code = code) (hml : c.maxLocals = 9) (hown : s.vm.findClass RL = some m.cls) (hts : ∀ w ∈ lw_all, w.before #[Value.ref b] s = true) (hE : EV (wA Z s.heap.size) s) (hK : wK Z s) (hX : va_X b L xs s s.heap) (hbl : b < s.heap.size) (hbA : ¬ wA Z s.heap.size b) {rc : Int32 → SS → SS → SS → Option Unit} {cells slots : Nat} (hcc : cells + 3 ≤ 600006) (hss : slots + 18 ≤ 7302096) (hrc : ∀ (ix : Int32) (X M O : SS) (H : Heap) (locs : List Loc) (ls : Array Slot), rc ix X M O = some () → wP Z (X, M, O) H → va_S (wA Z s.heap.size) s.heap H locs → lv_has ls 9 [(5, .int ix), (4, .ref (Z.2.2 57 0)), (3, .ref (Z.2.2 56 0)), (2, .ref (Z.2.2 26 0)), (1, .ref (Z.2.2 0 0)), (0, .ref b)] → W p l e room_1 s m #[Value.ref b] below meth c H locs (cells + 3) (slots + 18) Q (F0 m 28 ls [])) (ix : Int32) (X M O : SS) (H : Heap) (locs : List Loc) (ls : Array Slot) (hk : f_law_C40 xs L ix X M O rc = some ()) (hP : wP Z (X, M, O) H) (hS : va_S (wA Z s.heap.size) s.heap H locs) (hl : lv_has ls 9 [(5, .int ix), (4, .ref (Z.2.2 57 0)), (3, .ref (Z.2.2 56 0)), (2, .ref (Z.2.2 26 0)), (1, .ref (Z.2.2 0 0)), (0, .ref b)]) : W p l e room_1 s m #[Value.ref b] below meth c H locs cells slots Q (F0 m 2527 ls []) := by
  unfold f_law_C40 at hk
  refine lv_aload_n hx hb dL_law_2527 rfl (lv_at hl 4 rfl) ?_
  refine lv_aload_n hx hb dL_law_2528 rfl (lv_at hl 5 rfl) ?_
  refine lv_iload hx hb dL_law_2529 (lv_at hl 0 rfl) ?_
  refine lv_iconst (v := (1 : Int32)) hx hb dL_law_2531 (by decide) ?_
  refine lv_iadd hx hb dL_law_2532 ?_
  obtain ⟨hg1, hk⟩ := gd_s hk
  refine va_sld hx hb hX hbl hbA hS hg1 dL_law_2533 ?_
  refine lv_aload_n hx hb dL_law_2534 rfl (lv_at hl 2 rfl) ?_
  obtain ⟨X3, O4, v2, hf5, hk⟩ := b2_s hk
  refine wc_iSX0 (rest := []) (As := [.ref (Z.2.2 0 0), .int (xs ((ix + (1 : Int32))).toNatClampNeg), .ref (Z.2.2 56 0)]) ⟨hx, hb, hml, hown, hts⟩ (fun sz => k_L_days l hfl Z hZ X M O (xs ((ix + (1 : Int32))).toNatClampNeg) X3 O4 v2 hf5 sz) (cw_RL_294 (args := _) (s := s) hts (Nat.le_of_ble_eq_true rfl) (Nat.le_of_ble_eq_true rfl)) hE hP hK hS  rfl hl.1 rfl (Nat.le_of_ble_eq_true rfl) dL_law_2535 ⟨by show _ ≤ 600006; omega, by show _ ≤ 7302096; omega⟩ (fun H locs hP hS => ?_)
  refine lv_istore (lv' := [(6, .int v2), (5, .int ix), (4, .ref (Z.2.2 57 0)), (3, .ref (Z.2.2 56 0)), (2, .ref (Z.2.2 26 0)), (1, .ref (Z.2.2 0 0)), (0, .ref b)]) hx hb dL_law_2538 hl (by decide) rfl (fun ls hl => ?_)
  refine lv_aload_n hx hb dL_law_2540 rfl (lv_at hl 4 rfl) ?_
  refine lv_aload_n hx hb dL_law_2541 rfl (lv_at hl 6 rfl) ?_
  refine lv_iload hx hb dL_law_2542 (lv_at hl 1 rfl) ?_
  refine lv_iconst (v := (1 : Int32)) hx hb dL_law_2544 (by decide) ?_
  refine lv_iadd hx hb dL_law_2545 ?_
  obtain ⟨hg6, hk⟩ := gd_s hk
  refine va_sld hx hb hX hbl hbA hS hg6 dL_law_2546 ?_
  obtain ⟨M8, v7, hf9, hk⟩ := b1_s hk
  refine wc_iV0 (rest := []) (As := [.int (xs ((ix + (1 : Int32))).toNatClampNeg)]) ⟨hx, hb, hml, hown, hts⟩ (fun sz => k_X7_days l hfl Z hZ X3 M O4 (xs ((ix + (1 : Int32))).toNatClampNeg) M8 v7 hf9 sz) (cw_RL_296 (args := _) (s := s) hts (Nat.le_of_ble_eq_true rfl) (Nat.le_of_ble_eq_true rfl)) hE hP hK hS (rv_26 hK hP (by decide)) rfl hl.1 rfl (Nat.le_of_ble_eq_true rfl) dL_law_2547 ⟨by show _ ≤ 600006; omega, by show _ ≤ 7302096; omega⟩ (fun H locs hP hS => ?_)
  refine lv_istore (lv' := [(7, .int v7), (6, .int v2), (5, .int ix), (4, .ref (Z.2.2 57 0)), (3, .ref (Z.2.2 56 0)), (2, .ref (Z.2.2 26 0)), (1, .ref (Z.2.2 0 0)), (0, .ref b)]) hx hb dL_law_2550 hl (by decide) rfl (fun ls hl => ?_)
  refine lv_aload_n hx hb dL_law_2552 rfl (lv_at hl 5 rfl) ?_
  obtain ⟨v10, hf11, hk⟩ := b0_s hk
  refine wc_iV0 (rest := []) (As := []) ⟨hx, hb, hml, hown, hts⟩ (fun sz => k_X7_thrown l hfl Z hZ X3 M8 O4 v10 hf11 sz) (cw_RL_163 (args := _) (s := s) hts (Nat.le_of_ble_eq_true rfl) (Nat.le_of_ble_eq_true rfl)) hE hP hK hS (rv_26 hK hP (by decide)) rfl hl.1 rfl (Nat.le_of_ble_eq_true rfl) dL_law_2553 ⟨by show _ ≤ 600006; omega, by show _ ≤ 7302096; omega⟩ (fun H locs hP hS => ?_)
  refine lv_iload hx hb dL_law_2556 (lv_at hl 1 rfl) ?_
  refine lv_icmp_eq (tgt := 2563) hx hb dL_law_2558 (by decide) (fun cz12 => ?_) (fun cz12 => ?_)
  · have hk := it_t cz12 hk
    refine lv_iload hx hb dL_law_2563 (lv_at hl 1 rfl) ?_
    refine lv_if_ne (tgt := 2580) hx hb dL_law_2565 (by decide) (fun cz13 => ?_) (fun cz13 => ?_)
    · have hk := it_f cz13 hk
      refine lv_goto (tgt := 2753) hx hb dL_law_2580 (by decide) ?_
      refine lv_iinc (v := (ix + (4 : Int32))) (lv' := [(5, .int (ix + (4 : Int32))), (7, .int v7), (6, .int v2), (4, .ref (Z.2.2 57 0)), (3, .ref (Z.2.2 56 0)), (2, .ref (Z.2.2 26 0)), (1, .ref (Z.2.2 0 0)), (0, .ref b)]) hx hb dL_law_2753 hl (k := 2) rfl rfl (by decide) rfl (fun ls hl => ?_)
      refine lv_goto (tgt := 28) hx hb dL_law_2756 (by decide) ?_
      refine W.widen (k := cells + 3) (n := slots + 18) (by omega) (by omega) ?_
      exact hrc _ _ _ _ _ _ _ hk hP hS (lv_sub hl [0, 3, 4, 5, 6, 7] rfl)
    · have hk := it_t cz13 hk
      refine lv_aload_n hx hb dL_law_2568 rfl (lv_at hl 4 rfl) ?_
      refine lv_iconst (v := (0 : Int32)) hx hb dL_law_2569 (by decide) ?_
      refine wa_laload_56 hx hb hK hP (by decide) (by unfold vp_in; decide) dL_law_2570 ?_
      refine lv_iload hx hb dL_law_2571 (lv_at hl 0 rfl) ?_
      refine lv_i2l (v := (v7).toInt64) hx hb dL_law_2573 rfl ?_
      refine W.lcmp hx hb dL_law_2574 ?_
      refine lv_if_eq (tgt := 2580) hx hb dL_law_2575 (by decide) (fun cz14 => ?_) (fun cz14 => ?_)
      · have hk := it_t cz14 hk
        refine lv_goto (tgt := 2753) hx hb dL_law_2580 (by decide) ?_
        refine lv_iinc (v := (ix + (4 : Int32))) (lv' := [(5, .int (ix + (4 : Int32))), (7, .int v7), (6, .int v2), (4, .ref (Z.2.2 57 0)), (3, .ref (Z.2.2 56 0)), (2, .ref (Z.2.2 26 0)), (1, .ref (Z.2.2 0 0)), (0, .ref b)]) hx hb dL_law_2753 hl (k := 2) rfl rfl (by decide) rfl (fun ls hl => ?_)
        refine lv_goto (tgt := 28) hx hb dL_law_2756 (by decide) ?_
        refine W.widen (k := cells + 3) (n := slots + 18) (by omega) (by omega) ?_
        exact hrc _ _ _ _ _ _ _ hk hP hS (lv_sub hl [0, 3, 4, 5, 6, 7] rfl)
      · have hk := it_f cz14 hk
        refine lv_iconst (v := (0 : Int32)) hx hb dL_law_2578 (by decide) ?_
        exact nomatch (show none = some _ from hk)
  · have hk := it_f cz12 hk
    refine lv_iconst (v := (0 : Int32)) hx hb dL_law_2561 (by decide) ?_
    exact nomatch (show none = some _ from hk)
set_option maxHeartbeats 4000000 in
set_option maxRecDepth 100000 in
theorem law_C41 (hfl : l.stackTraces = false) (hZ : wD Z) (hx : p.tables.exec = Jvm.exec) (hb : c.code = code) (hml : c.maxLocals = 9) (hown : s.vm.findClass RL = some m.cls) (hts : ∀ w ∈ lw_all, w.before #[Value.ref b] s = true) (hE : EV (wA Z s.heap.size) s) (hK : wK Z s) (hX : va_X b L xs s s.heap) (hbl : b < s.heap.size) (hbA : ¬ wA Z s.heap.size b) {rc : Int32 → SS → SS → SS → Option Unit} {cells slots : Nat} (hcc : cells + 3 ≤ 600006) (hss : slots + 18 ≤ 7302096) (hrc : ∀ (ix : Int32) (X M O : SS) (H : Heap) (locs : List Loc) (ls : Array Slot), rc ix X M O = some () → wP Z (X, M, O) H → va_S (wA Z s.heap.size) s.heap H locs → lv_has ls 9 [(5, .int ix), (4, .ref (Z.2.2 57 0)), (3, .ref (Z.2.2 56 0)), (2, .ref (Z.2.2 26 0)), (1, .ref (Z.2.2 0 0)), (0, .ref b)] → W p l e room_1 s m #[Value.ref b] below meth c H locs (cells + 3) (slots + 18) Q (F0 m 28 ls [])) (ix : Int32) (X M O : SS) (H : Heap) (locs : List Loc) (ls : Array Slot) (hk : f_law_C41 xs L ix X M O rc = some ()) (hP : wP Z (X, M, O) H) (hS : va_S (wA Z s.heap.size) s.heap H locs) (hl : lv_has ls 9 [(5, .int ix), (4, .ref (Z.2.2 57 0)), (3, .ref (Z.2.2 56 0)), (2, .ref (Z.2.2 26 0)), (1, .ref (Z.2.2 0 0)), (0, .ref b)]) : W p l e room_1 s m #[Value.ref b] below meth c H locs cells slots Q (F0 m 2583 ls []) := by
  unfold f_law_C41 at hk
  refine lv_aload_n hx hb dL_law_2583 rfl (lv_at hl 4 rfl) ?_
  obtain ⟨v1, hf2, hk⟩ := b0_s hk
  refine wc_lV0 (rest := []) (As := []) ⟨hx, hb, hml, hown, hts⟩ (fun sz => k_X6_checksum l hfl Z hZ X M O v1 hf2 sz) (cw_RL_297 (args := _) (s := s) hts (Nat.le_of_ble_eq_true rfl) (Nat.le_of_ble_eq_true rfl)) hE hP hK hS (rv_0 hK hP (by decide)) rfl hl.1 rfl (Nat.le_of_ble_eq_true rfl) dL_law_2584 ⟨by show _ ≤ 600006; omega, by show _ ≤ 7302096; omega⟩ (fun H locs hP hS => ?_)
  refine lv_aload_n hx hb dL_law_2587 rfl (lv_at hl 3 rfl) ?_
  obtain ⟨M4, v3, hf5, hk⟩ := b1_s hk
  refine wc_lV0 (rest := [.long v1]) (As := []) ⟨hx, hb, hml, hown, hts⟩ (fun sz => k_X7_checksum l hfl Z hZ X M O M4 v3 hf5 sz) (cw_RL_301 (args := _) (s := s) hts (Nat.le_of_ble_eq_true rfl) (Nat.le_of_ble_eq_true rfl)) hE hP hK hS (rv_26 hK hP (by decide)) rfl hl.1 rfl (Nat.le_of_ble_eq_true rfl) dL_law_2588 ⟨by show _ ≤ 600006; omega, by show _ ≤ 7302096; omega⟩ (fun H locs hP hS => ?_)
  refine W.lcmp hx hb dL_law_2591 ?_
  refine lv_if_eq (tgt := 2753) hx hb dL_law_2592 (by decide) (fun cz6 => ?_) (fun cz6 => ?_)
  · have hk := it_t cz6 hk
    refine lv_iinc (v := (ix + (4 : Int32))) (lv' := [(5, .int (ix + (4 : Int32))), (4, .ref (Z.2.2 57 0)), (3, .ref (Z.2.2 56 0)), (2, .ref (Z.2.2 26 0)), (1, .ref (Z.2.2 0 0)), (0, .ref b)]) hx hb dL_law_2753 hl (k := 0) rfl rfl (by decide) rfl (fun ls hl => ?_)
    refine lv_goto (tgt := 28) hx hb dL_law_2756 (by decide) ?_
    refine W.widen (k := cells + 3) (n := slots + 18) (by omega) (by omega) ?_
    exact hrc _ _ _ _ _ _ _ hk hP hS (lv_sub hl [0, 1, 2, 3, 4, 5] rfl)
  · have hk := it_f cz6 hk
    refine lv_iconst (v := (0 : Int32)) hx hb dL_law_2595 (by decide) ?_
    exact nomatch (show none = some _ from hk)
set_option maxHeartbeats 4000000 in
set_option maxRecDepth 100000 in
theorem law_C42 (hfl : l.stackTraces = false) (hZ : wD Z) (hx : p.tables.exec = Jvm.exec) (hb : c.code = code) (hml : c.maxLocals = 9) (hown : s.vm.findClass RL = some m.cls) (hts : ∀ w ∈ lw_all, w.before #[Value.ref b] s = true) (hE : EV (wA Z s.heap.size) s) (hK : wK Z s) (hX : va_X b L xs s s.heap) (hbl : b < s.heap.size) (hbA : ¬ wA Z s.heap.size b) {rc : Int32 → SS → SS → SS → Option Unit} {cells slots : Nat} (hcc : cells + 3 ≤ 600006) (hss : slots + 18 ≤ 7302096) (hrc : ∀ (ix : Int32) (X M O : SS) (H : Heap) (locs : List Loc) (ls : Array Slot), rc ix X M O = some () → wP Z (X, M, O) H → va_S (wA Z s.heap.size) s.heap H locs → lv_has ls 9 [(5, .int ix), (4, .ref (Z.2.2 57 0)), (3, .ref (Z.2.2 56 0)), (2, .ref (Z.2.2 26 0)), (1, .ref (Z.2.2 0 0)), (0, .ref b)] → W p l e room_1 s m #[Value.ref b] below meth c H locs (cells + 3) (slots + 18) Q (F0 m 28 ls [])) (ix : Int32) (X M O : SS) (H : Heap) (locs : List Loc) (ls : Array Slot) (hk : f_law_C42 xs L ix X M O rc = some ()) (hP : wP Z (X, M, O) H) (hS : va_S (wA Z s.heap.size) s.heap H locs) (hl : lv_has ls 9 [(5, .int ix), (4, .ref (Z.2.2 57 0)), (3, .ref (Z.2.2 56 0)), (2, .ref (Z.2.2 26 0)), (1, .ref (Z.2.2 0 0)), (0, .ref b)]) : W p l e room_1 s m #[Value.ref b] below meth c H locs cells slots Q (F0 m 2597 ls []) := by
  unfold f_law_C42 at hk
  refine lv_aload_n hx hb dL_law_2597 rfl (lv_at hl 4 rfl) ?_
  refine lv_aload hx hb dL_law_2598 (lv_at hl 1 rfl) ?_
  obtain ⟨O2, v1, hf3, hk⟩ := b1_s hk
  refine wc_iSX0 (rest := []) (As := [.ref (Z.2.2 0 0), .ref (Z.2.2 57 0)]) ⟨hx, hb, hml, hown, hts⟩ (fun sz => k_L_standingShare l hfl Z hZ X M O O2 v1 hf3 sz) (cw_RL_302 (args := _) (s := s) hts (Nat.le_of_ble_eq_true rfl) (Nat.le_of_ble_eq_true rfl)) hE hP hK hS  rfl hl.1 rfl (Nat.le_of_ble_eq_true rfl) dL_law_2600 ⟨by show _ ≤ 600006; omega, by show _ ≤ 7302096; omega⟩ (fun H locs hP hS => ?_)
  refine lv_istore (lv' := [(6, .int v1), (5, .int ix), (4, .ref (Z.2.2 57 0)), (3, .ref (Z.2.2 56 0)), (2, .ref (Z.2.2 26 0)), (1, .ref (Z.2.2 0 0)), (0, .ref b)]) hx hb dL_law_2603 hl (by decide) rfl (fun ls hl => ?_)
  refine lv_aload_n hx hb dL_law_2605 rfl (lv_at hl 4 rfl) ?_
  obtain ⟨M5, v4, hf6, hk⟩ := b1_s hk
  refine wc_fV0 (rest := []) (As := []) ⟨hx, hb, hml, hown, hts⟩ (fun sz => k_X7_standingShare l hfl Z hZ X M O2 M5 v4 hf6 sz) (cw_RL_305 (args := _) (s := s) hts (Nat.le_of_ble_eq_true rfl) (Nat.le_of_ble_eq_true rfl)) hE hP hK hS (rv_26 hK hP (by decide)) rfl hl.1 rfl (Nat.le_of_ble_eq_true rfl) dL_law_2606 ⟨by show _ ≤ 600006; omega, by show _ ≤ 7302096; omega⟩ (fun H locs hP hS => ?_)
  refine lv_fstore (lv' := [(7, .float v4), (6, .int v1), (5, .int ix), (4, .ref (Z.2.2 57 0)), (3, .ref (Z.2.2 56 0)), (2, .ref (Z.2.2 26 0)), (1, .ref (Z.2.2 0 0)), (0, .ref b)]) hx hb dL_law_2609 hl (by decide) rfl (fun ls hl => ?_)
  refine lv_aload_n hx hb dL_law_2611 rfl (lv_at hl 5 rfl) ?_
  obtain ⟨v7, hf8, hk⟩ := b0_s hk
  refine wc_iV0 (rest := []) (As := []) ⟨hx, hb, hml, hown, hts⟩ (fun sz => k_X7_thrown l hfl Z hZ X M5 O2 v7 hf8 sz) (cw_RL_163 (args := _) (s := s) hts (Nat.le_of_ble_eq_true rfl) (Nat.le_of_ble_eq_true rfl)) hE hP hK hS (rv_26 hK hP (by decide)) rfl hl.1 rfl (Nat.le_of_ble_eq_true rfl) dL_law_2612 ⟨by show _ ≤ 600006; omega, by show _ ≤ 7302096; omega⟩ (fun H locs hP hS => ?_)
  refine lv_iload hx hb dL_law_2615 (lv_at hl 1 rfl) ?_
  refine lv_icmp_eq (tgt := 2622) hx hb dL_law_2617 (by decide) (fun cz9 => ?_) (fun cz9 => ?_)
  · have hk := it_t cz9 hk
    refine lv_iload hx hb dL_law_2622 (lv_at hl 1 rfl) ?_
    refine lv_if_ne (tgt := 2660) hx hb dL_law_2624 (by decide) (fun cz10 => ?_) (fun cz10 => ?_)
    · have hk := it_f cz10 hk
      refine lv_goto (tgt := 2753) hx hb dL_law_2660 (by decide) ?_
      refine lv_iinc (v := (ix + (4 : Int32))) (lv' := [(5, .int (ix + (4 : Int32))), (7, .float v4), (6, .int v1), (4, .ref (Z.2.2 57 0)), (3, .ref (Z.2.2 56 0)), (2, .ref (Z.2.2 26 0)), (1, .ref (Z.2.2 0 0)), (0, .ref b)]) hx hb dL_law_2753 hl (k := 2) rfl rfl (by decide) rfl (fun ls hl => ?_)
      refine lv_goto (tgt := 28) hx hb dL_law_2756 (by decide) ?_
      refine W.widen (k := cells + 3) (n := slots + 18) (by omega) (by omega) ?_
      exact hrc _ _ _ _ _ _ _ hk hP hS (lv_sub hl [0, 3, 4, 5, 6, 7] rfl)
    · have hk := it_t cz10 hk
      refine lv_aload hx hb dL_law_2627 (lv_at hl 3 rfl) ?_
      refine lv_iconst (v := (0 : Int32)) hx hb dL_law_2629 (by decide) ?_
      refine wa_daload_57 hx hb hK hP (by decide) (by unfold vp_in; decide) dL_law_2630 ?_
      refine lv_fload hx hb dL_law_2631 (lv_at hl 0 rfl) ?_
      obtain ⟨hg11, hk⟩ := gd_s hk
      refine lv_f2d hx hb dL_law_2633 hg11 ?_
      refine lv_dcmp hx hb dL_law_2634 ?_
      refine lv_if_eq (tgt := 2660) hx hb dL_law_2635 (by decide) (fun cz12 => ?_) (fun cz12 => ?_)
      · have hk := it_t cz12 hk
        refine lv_goto (tgt := 2753) hx hb dL_law_2660 (by decide) ?_
        refine lv_iinc (v := (ix + (4 : Int32))) (lv' := [(5, .int (ix + (4 : Int32))), (7, .float v4), (6, .int v1), (4, .ref (Z.2.2 57 0)), (3, .ref (Z.2.2 56 0)), (2, .ref (Z.2.2 26 0)), (1, .ref (Z.2.2 0 0)), (0, .ref b)]) hx hb dL_law_2753 hl (k := 2) rfl rfl (by decide) rfl (fun ls hl => ?_)
        refine lv_goto (tgt := 28) hx hb dL_law_2756 (by decide) ?_
        refine W.widen (k := cells + 3) (n := slots + 18) (by omega) (by omega) ?_
        exact hrc _ _ _ _ _ _ _ hk hP hS (lv_sub hl [0, 3, 4, 5, 6, 7] rfl)
      · have hk := it_f cz12 hk
        refine lv_aload hx hb dL_law_2638 (lv_at hl 3 rfl) ?_
        refine lv_iconst (v := (0 : Int32)) hx hb dL_law_2640 (by decide) ?_
        refine wa_daload_57 hx hb hK hP (by decide) (by unfold vp_in; decide) dL_law_2641 ?_
        refine lv_aload hx hb dL_law_2642 (lv_at hl 3 rfl) ?_
        refine lv_iconst (v := (0 : Int32)) hx hb dL_law_2644 (by decide) ?_
        refine wa_daload_57 hx hb hK hP (by decide) (by unfold vp_in; decide) dL_law_2645 ?_
        refine lv_dcmp hx hb dL_law_2646 ?_
        refine lv_if_eq (tgt := 2658) hx hb dL_law_2647 (by decide) (fun cz13 => ?_) (fun cz13 => ?_)
        · have hk := it_t cz13 hk
          refine lv_iconst (v := (0 : Int32)) hx hb dL_law_2658 (by decide) ?_
          exact nomatch (show none = some _ from hk)
        · have hk := it_f cz13 hk
          refine lv_fload hx hb dL_law_2650 (lv_at hl 0 rfl) ?_
          refine lv_fload hx hb dL_law_2652 (lv_at hl 0 rfl) ?_
          refine lv_fcmp hx hb dL_law_2654 ?_
          refine lv_if_ne (tgt := 2660) hx hb dL_law_2655 (by decide) (fun cz14 => ?_) (fun cz14 => ?_)
          · have hk := it_f cz14 hk
            refine lv_goto (tgt := 2753) hx hb dL_law_2660 (by decide) ?_
            refine lv_iinc (v := (ix + (4 : Int32))) (lv' := [(5, .int (ix + (4 : Int32))), (7, .float v4), (6, .int v1), (4, .ref (Z.2.2 57 0)), (3, .ref (Z.2.2 56 0)), (2, .ref (Z.2.2 26 0)), (1, .ref (Z.2.2 0 0)), (0, .ref b)]) hx hb dL_law_2753 hl (k := 2) rfl rfl (by decide) rfl (fun ls hl => ?_)
            refine lv_goto (tgt := 28) hx hb dL_law_2756 (by decide) ?_
            refine W.widen (k := cells + 3) (n := slots + 18) (by omega) (by omega) ?_
            exact hrc _ _ _ _ _ _ _ hk hP hS (lv_sub hl [0, 3, 4, 5, 6, 7] rfl)
          · have hk := it_t cz14 hk
            refine lv_iconst (v := (0 : Int32)) hx hb dL_law_2658 (by decide) ?_
            exact nomatch (show none = some _ from hk)
  · have hk := it_f cz9 hk
    refine lv_iconst (v := (0 : Int32)) hx hb dL_law_2620 (by decide) ?_
    exact nomatch (show none = some _ from hk)
set_option maxHeartbeats 4000000 in
set_option maxRecDepth 100000 in
theorem law_C43 (hfl : l.stackTraces = false) (hZ : wD Z) (hx : p.tables.exec = Jvm.exec) (hb : c.code = code) (hml : c.maxLocals = 9) (hown : s.vm.findClass RL = some m.cls) (hts : ∀ w ∈ lw_all, w.before #[Value.ref b] s = true) (hE : EV (wA Z s.heap.size) s) (hK : wK Z s) (hX : va_X b L xs s s.heap) (hbl : b < s.heap.size) (hbA : ¬ wA Z s.heap.size b) {rc : Int32 → SS → SS → SS → Option Unit} {cells slots : Nat} (hcc : cells + 3 ≤ 600006) (hss : slots + 18 ≤ 7302096) (hrc : ∀ (ix : Int32) (X M O : SS) (H : Heap) (locs : List Loc) (ls : Array Slot), rc ix X M O = some () → wP Z (X, M, O) H → va_S (wA Z s.heap.size) s.heap H locs → lv_has ls 9 [(5, .int ix), (4, .ref (Z.2.2 57 0)), (3, .ref (Z.2.2 56 0)), (2, .ref (Z.2.2 26 0)), (1, .ref (Z.2.2 0 0)), (0, .ref b)] → W p l e room_1 s m #[Value.ref b] below meth c H locs (cells + 3) (slots + 18) Q (F0 m 28 ls [])) (ix : Int32) (X M O : SS) (H : Heap) (locs : List Loc) (ls : Array Slot) (hk : f_law_C43 xs L ix X M O rc = some ()) (hP : wP Z (X, M, O) H) (hS : va_S (wA Z s.heap.size) s.heap H locs) (hl : lv_has ls 9 [(5, .int ix), (4, .ref (Z.2.2 57 0)), (3, .ref (Z.2.2 56 0)), (2, .ref (Z.2.2 26 0)), (1, .ref (Z.2.2 0 0)), (0, .ref b)]) : W p l e room_1 s m #[Value.ref b] below meth c H locs cells slots Q (F0 m 2663 ls []) := by
  unfold f_law_C43 at hk
  refine lv_aload_n hx hb dL_law_2663 rfl (lv_at hl 4 rfl) ?_
  refine lv_aload_n hx hb dL_law_2664 rfl (lv_at hl 5 rfl) ?_
  refine lv_iload hx hb dL_law_2665 (lv_at hl 0 rfl) ?_
  refine lv_iconst (v := (1 : Int32)) hx hb dL_law_2667 (by decide) ?_
  refine lv_iadd hx hb dL_law_2668 ?_
  obtain ⟨hg1, hk⟩ := gd_s hk
  refine va_sld hx hb hX hbl hbA hS hg1 dL_law_2669 ?_
  refine lv_aload hx hb dL_law_2670 (lv_at hl 1 rfl) ?_
  obtain ⟨X3, O4, v2, hf5, hk⟩ := b2_s hk
  refine wc_iSX0 (rest := []) (As := [.ref (Z.2.2 0 0), .int (xs ((ix + (1 : Int32))).toNatClampNeg), .ref (Z.2.2 57 0)]) ⟨hx, hb, hml, hown, hts⟩ (fun sz => k_L_meanSteps l hfl Z hZ X M O (xs ((ix + (1 : Int32))).toNatClampNeg) X3 O4 v2 hf5 sz) (cw_RL_306 (args := _) (s := s) hts (Nat.le_of_ble_eq_true rfl) (Nat.le_of_ble_eq_true rfl)) hE hP hK hS  rfl hl.1 rfl (Nat.le_of_ble_eq_true rfl) dL_law_2672 ⟨by show _ ≤ 600006; omega, by show _ ≤ 7302096; omega⟩ (fun H locs hP hS => ?_)
  refine lv_istore (lv' := [(6, .int v2), (5, .int ix), (4, .ref (Z.2.2 57 0)), (3, .ref (Z.2.2 56 0)), (2, .ref (Z.2.2 26 0)), (1, .ref (Z.2.2 0 0)), (0, .ref b)]) hx hb dL_law_2675 hl (by decide) rfl (fun ls hl => ?_)
  refine lv_aload_n hx hb dL_law_2677 rfl (lv_at hl 4 rfl) ?_
  refine lv_aload_n hx hb dL_law_2678 rfl (lv_at hl 6 rfl) ?_
  refine lv_iload hx hb dL_law_2679 (lv_at hl 1 rfl) ?_
  refine lv_iconst (v := (1 : Int32)) hx hb dL_law_2681 (by decide) ?_
  refine lv_iadd hx hb dL_law_2682 ?_
  obtain ⟨hg6, hk⟩ := gd_s hk
  refine va_sld hx hb hX hbl hbA hS hg6 dL_law_2683 ?_
  obtain ⟨M8, v7, hf9, hk⟩ := b1_s hk
  refine wc_dV0 (rest := []) (As := [.int (xs ((ix + (1 : Int32))).toNatClampNeg)]) ⟨hx, hb, hml, hown, hts⟩ (fun sz => k_X7_meanSteps l hfl Z hZ X3 M O4 (xs ((ix + (1 : Int32))).toNatClampNeg) M8 v7 hf9 sz) (cw_RL_308 (args := _) (s := s) hts (Nat.le_of_ble_eq_true rfl) (Nat.le_of_ble_eq_true rfl)) hE hP hK hS (rv_26 hK hP (by decide)) rfl hl.1 rfl (Nat.le_of_ble_eq_true rfl) dL_law_2684 ⟨by show _ ≤ 600006; omega, by show _ ≤ 7302096; omega⟩ (fun H locs hP hS => ?_)
  refine lv_dstore (lv' := [(7, .double v7), (6, .int v2), (5, .int ix), (4, .ref (Z.2.2 57 0)), (3, .ref (Z.2.2 56 0)), (2, .ref (Z.2.2 26 0)), (1, .ref (Z.2.2 0 0)), (0, .ref b)]) hx hb dL_law_2687 hl (by decide) rfl (fun ls hl => ?_)
  refine lv_aload_n hx hb dL_law_2689 rfl (lv_at hl 5 rfl) ?_
  obtain ⟨v10, hf11, hk⟩ := b0_s hk
  refine wc_iV0 (rest := []) (As := []) ⟨hx, hb, hml, hown, hts⟩ (fun sz => k_X7_thrown l hfl Z hZ X3 M8 O4 v10 hf11 sz) (cw_RL_163 (args := _) (s := s) hts (Nat.le_of_ble_eq_true rfl) (Nat.le_of_ble_eq_true rfl)) hE hP hK hS (rv_26 hK hP (by decide)) rfl hl.1 rfl (Nat.le_of_ble_eq_true rfl) dL_law_2690 ⟨by show _ ≤ 600006; omega, by show _ ≤ 7302096; omega⟩ (fun H locs hP hS => ?_)
  refine lv_iload hx hb dL_law_2693 (lv_at hl 1 rfl) ?_
  refine lv_icmp_eq (tgt := 2700) hx hb dL_law_2695 (by decide) (fun cz12 => ?_) (fun cz12 => ?_)
  · have hk := it_t cz12 hk
    refine lv_iload hx hb dL_law_2700 (lv_at hl 1 rfl) ?_
    refine lv_if_ne (tgt := 2737) hx hb dL_law_2702 (by decide) (fun cz13 => ?_) (fun cz13 => ?_)
    · have hk := it_f cz13 hk
      refine lv_goto (tgt := 2753) hx hb dL_law_2737 (by decide) ?_
      refine lv_iinc (v := (ix + (4 : Int32))) (lv' := [(5, .int (ix + (4 : Int32))), (7, .double v7), (6, .int v2), (4, .ref (Z.2.2 57 0)), (3, .ref (Z.2.2 56 0)), (2, .ref (Z.2.2 26 0)), (1, .ref (Z.2.2 0 0)), (0, .ref b)]) hx hb dL_law_2753 hl (k := 2) rfl rfl (by decide) rfl (fun ls hl => ?_)
      refine lv_goto (tgt := 28) hx hb dL_law_2756 (by decide) ?_
      refine W.widen (k := cells + 3) (n := slots + 18) (by omega) (by omega) ?_
      exact hrc _ _ _ _ _ _ _ hk hP hS (lv_sub hl [0, 3, 4, 5, 6, 7] rfl)
    · have hk := it_t cz13 hk
      refine lv_aload hx hb dL_law_2705 (lv_at hl 3 rfl) ?_
      refine lv_iconst (v := (0 : Int32)) hx hb dL_law_2707 (by decide) ?_
      refine wa_daload_57 hx hb hK hP (by decide) (by unfold vp_in; decide) dL_law_2708 ?_
      refine lv_dload hx hb dL_law_2709 (lv_at hl 0 rfl) ?_
      refine lv_dcmp hx hb dL_law_2711 ?_
      refine lv_if_eq (tgt := 2737) hx hb dL_law_2712 (by decide) (fun cz14 => ?_) (fun cz14 => ?_)
      · have hk := it_t cz14 hk
        refine lv_goto (tgt := 2753) hx hb dL_law_2737 (by decide) ?_
        refine lv_iinc (v := (ix + (4 : Int32))) (lv' := [(5, .int (ix + (4 : Int32))), (7, .double v7), (6, .int v2), (4, .ref (Z.2.2 57 0)), (3, .ref (Z.2.2 56 0)), (2, .ref (Z.2.2 26 0)), (1, .ref (Z.2.2 0 0)), (0, .ref b)]) hx hb dL_law_2753 hl (k := 2) rfl rfl (by decide) rfl (fun ls hl => ?_)
        refine lv_goto (tgt := 28) hx hb dL_law_2756 (by decide) ?_
        refine W.widen (k := cells + 3) (n := slots + 18) (by omega) (by omega) ?_
        exact hrc _ _ _ _ _ _ _ hk hP hS (lv_sub hl [0, 3, 4, 5, 6, 7] rfl)
      · have hk := it_f cz14 hk
        refine lv_aload hx hb dL_law_2715 (lv_at hl 3 rfl) ?_
        refine lv_iconst (v := (0 : Int32)) hx hb dL_law_2717 (by decide) ?_
        refine wa_daload_57 hx hb hK hP (by decide) (by unfold vp_in; decide) dL_law_2718 ?_
        refine lv_aload hx hb dL_law_2719 (lv_at hl 3 rfl) ?_
        refine lv_iconst (v := (0 : Int32)) hx hb dL_law_2721 (by decide) ?_
        refine wa_daload_57 hx hb hK hP (by decide) (by unfold vp_in; decide) dL_law_2722 ?_
        refine lv_dcmp hx hb dL_law_2723 ?_
        refine lv_if_eq (tgt := 2735) hx hb dL_law_2724 (by decide) (fun cz15 => ?_) (fun cz15 => ?_)
        · have hk := it_t cz15 hk
          refine lv_iconst (v := (0 : Int32)) hx hb dL_law_2735 (by decide) ?_
          exact nomatch (show none = some _ from hk)
        · have hk := it_f cz15 hk
          refine lv_dload hx hb dL_law_2727 (lv_at hl 0 rfl) ?_
          refine lv_dload hx hb dL_law_2729 (lv_at hl 0 rfl) ?_
          refine lv_dcmp hx hb dL_law_2731 ?_
          refine lv_if_ne (tgt := 2737) hx hb dL_law_2732 (by decide) (fun cz16 => ?_) (fun cz16 => ?_)
          · have hk := it_f cz16 hk
            refine lv_goto (tgt := 2753) hx hb dL_law_2737 (by decide) ?_
            refine lv_iinc (v := (ix + (4 : Int32))) (lv' := [(5, .int (ix + (4 : Int32))), (7, .double v7), (6, .int v2), (4, .ref (Z.2.2 57 0)), (3, .ref (Z.2.2 56 0)), (2, .ref (Z.2.2 26 0)), (1, .ref (Z.2.2 0 0)), (0, .ref b)]) hx hb dL_law_2753 hl (k := 2) rfl rfl (by decide) rfl (fun ls hl => ?_)
            refine lv_goto (tgt := 28) hx hb dL_law_2756 (by decide) ?_
            refine W.widen (k := cells + 3) (n := slots + 18) (by omega) (by omega) ?_
            exact hrc _ _ _ _ _ _ _ hk hP hS (lv_sub hl [0, 3, 4, 5, 6, 7] rfl)
          · have hk := it_t cz16 hk
            refine lv_iconst (v := (0 : Int32)) hx hb dL_law_2735 (by decide) ?_
            exact nomatch (show none = some _ from hk)
  · have hk := it_f cz12 hk
    refine lv_iconst (v := (0 : Int32)) hx hb dL_law_2698 (by decide) ?_
    exact nomatch (show none = some _ from hk)
set_option maxHeartbeats 4000000 in
set_option maxRecDepth 100000 in
theorem law_C44 (hfl : l.stackTraces = false) (hZ : wD Z) (hx : p.tables.exec = Jvm.exec) (hb : c.code = code) (hml : c.maxLocals = 9) (hown : s.vm.findClass RL = some m.cls) (hts : ∀ w ∈ lw_all, w.before #[Value.ref b] s = true) (hE : EV (wA Z s.heap.size) s) (hK : wK Z s) (hX : va_X b L xs s s.heap) (hbl : b < s.heap.size) (hbA : ¬ wA Z s.heap.size b) {rc : Int32 → SS → SS → SS → Option Unit} {cells slots : Nat} (hcc : cells + 3 ≤ 600006) (hss : slots + 18 ≤ 7302096) (hrc : ∀ (ix : Int32) (X M O : SS) (H : Heap) (locs : List Loc) (ls : Array Slot), rc ix X M O = some () → wP Z (X, M, O) H → va_S (wA Z s.heap.size) s.heap H locs → lv_has ls 9 [(5, .int ix), (4, .ref (Z.2.2 57 0)), (3, .ref (Z.2.2 56 0)), (2, .ref (Z.2.2 26 0)), (1, .ref (Z.2.2 0 0)), (0, .ref b)] → W p l e room_1 s m #[Value.ref b] below meth c H locs (cells + 3) (slots + 18) Q (F0 m 28 ls [])) (ix : Int32) (X M O : SS) (H : Heap) (locs : List Loc) (ls : Array Slot) (hk : f_law_C44 xs L ix X M O rc = some ()) (hP : wP Z (X, M, O) H) (hS : va_S (wA Z s.heap.size) s.heap H locs) (hl : lv_has ls 9 [(5, .int ix), (4, .ref (Z.2.2 57 0)), (3, .ref (Z.2.2 56 0)), (2, .ref (Z.2.2 26 0)), (1, .ref (Z.2.2 0 0)), (0, .ref b)]) : W p l e room_1 s m #[Value.ref b] below meth c H locs cells slots Q (F0 m 2740 ls []) := by
  unfold f_law_C44 at hk
  refine lv_aload_n hx hb dL_law_2740 rfl (lv_at hl 4 rfl) ?_
  obtain ⟨X2, v1, hf3, hk⟩ := b1_s hk
  refine wc_iV0 (rest := []) (As := []) ⟨hx, hb, hml, hown, hts⟩ (fun sz => k_X6_isSound l hfl Z hZ X M O X2 v1 hf3 sz) (cw_RL_309 (args := _) (s := s) hts (Nat.le_of_ble_eq_true rfl) (Nat.le_of_ble_eq_true rfl)) hE hP hK hS (rv_0 hK hP (by decide)) rfl hl.1 rfl (Nat.le_of_ble_eq_true rfl) dL_law_2741 ⟨by show _ ≤ 600006; omega, by show _ ≤ 7302096; omega⟩ (fun H locs hP hS => ?_)
  refine lv_aload_n hx hb dL_law_2744 rfl (lv_at hl 3 rfl) ?_
  obtain ⟨M5, v4, hf6, hk⟩ := b1_s hk
  refine wc_iV0 (rest := [.int v1]) (As := []) ⟨hx, hb, hml, hown, hts⟩ (fun sz => k_X7_isSound l hfl Z hZ X2 M O M5 v4 hf6 sz) (cw_RL_313 (args := _) (s := s) hts (Nat.le_of_ble_eq_true rfl) (Nat.le_of_ble_eq_true rfl)) hE hP hK hS (rv_26 hK hP (by decide)) rfl hl.1 rfl (Nat.le_of_ble_eq_true rfl) dL_law_2745 ⟨by show _ ≤ 600006; omega, by show _ ≤ 7302096; omega⟩ (fun H locs hP hS => ?_)
  refine lv_icmp_eq (tgt := 2753) hx hb dL_law_2748 (by decide) (fun cz7 => ?_) (fun cz7 => ?_)
  · have hk := it_t cz7 hk
    refine lv_iinc (v := (ix + (4 : Int32))) (lv' := [(5, .int (ix + (4 : Int32))), (4, .ref (Z.2.2 57 0)), (3, .ref (Z.2.2 56 0)), (2, .ref (Z.2.2 26 0)), (1, .ref (Z.2.2 0 0)), (0, .ref b)]) hx hb dL_law_2753 hl (k := 0) rfl rfl (by decide) rfl (fun ls hl => ?_)
    refine lv_goto (tgt := 28) hx hb dL_law_2756 (by decide) ?_
    refine W.widen (k := cells + 3) (n := slots + 18) (by omega) (by omega) ?_
    exact hrc _ _ _ _ _ _ _ hk hP hS (lv_sub hl [0, 1, 2, 3, 4, 5] rfl)
  · have hk := it_f cz7 hk
    refine lv_iconst (v := (0 : Int32)) hx hb dL_law_2751 (by decide) ?_
    exact nomatch (show none = some _ from hk)