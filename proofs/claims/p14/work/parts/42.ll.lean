variable {p : Program} {l : Launch} {e : Env} {s : State} {m : MethodId} {below : List Frame} {meth : Method} {c : Code} {Q : State → Prop} {Z : ZT} {b L : Nat} {xs : Nat → Int32}
set_option maxHeartbeats 8000000 in
set_option maxRecDepth 100000 in
theorem law_loop (hfl : l.stackTraces = false) (hZ : wD Z) (hx : p.tables.exec = Jvm.exec) (hb : c.code = code) (hml : c.maxLocals = 9) (hown : s.vm.findClass RL = some m.cls) (hts : ∀ w ∈ lw_all, w.before #[Value.ref b] s = true) (hE : EV (wA Z s.heap.size) s) (hK : wK Z s) (hX : va_X b L xs s s.heap) (hbl : b < s.heap.size) (hbA : ¬ wA Z s.heap.size b) (hend : ∀ (H : Heap) (locs : List Loc) (ls : Array Slot) (cells slots : Nat), cells ≤ 603072 → slots ≤ 7223402 → va_S (wA Z s.heap.size) s.heap H locs → W p l e room_1 s m #[Value.ref b] below meth c H locs cells slots Q (F0 m 1628 ls [.int 1])) : ∀ (n : Nat) (ix : Int32) (X M O : SS) (H : Heap) (locs : List Loc) (ls : Array Slot) (cells slots : Nat), cells + 3 * n ≤ 603072 → slots + 18 * n ≤ 7223402 → f_law xs L n ix X M O = some () → wP Z (X, M, O) H → va_S (wA Z s.heap.size) s.heap H locs → lv_has ls 9 [(5, .int ix), (4, .ref (Z.2.2 57 0)), (3, .ref (Z.2.2 56 0)), (2, .ref (Z.2.2 26 0)), (1, .ref (Z.2.2 0 0)), (0, .ref b)] → W p l e room_1 s m #[Value.ref b] below meth c H locs cells slots Q (F0 m 28 ls []) := by
  intro n
  induction n with
  | zero =>
    intro ix X M O H locs ls cells slots _ _ hk
    rw [f_law] at hk
    exact nomatch (show none = some _ from hk)
  | succ n ih =>
    intro ix X M O H locs ls cells slots hcc hss hk hP hS hl
    rw [f_law] at hk
    refine lv_iload hx hb dL_law_28 (lv_at hl 0 rfl) ?_
    refine lv_aload_n hx hb dL_law_30 rfl (lv_at hl 5 rfl) ?_
    refine va_slen hx hb hX hbl hbA hS dL_law_31 ?_
    refine lv_iconst (v := (4 : Int32)) hx hb dL_law_32 (by decide) ?_
    refine lv_isub hx hb dL_law_33 ?_
    refine lv_icmp_gt (tgt := 1627) hx hb dL_law_34 (by decide) (fun cz => ?_) (fun cz => ?_)
    · refine lv_iconst (v := 1) hx hb dL_law_1627 (by decide) ?_
      exact hend _ _ _ _ _ (by omega) (by omega) hS
    · have hk := it_f cz hk
      obtain ⟨hg, hk⟩ := gd_s hk
      refine lv_aload_n hx hb dL_law_37 rfl (lv_at hl 5 rfl) ?_
      refine lv_iload hx hb dL_law_38 (lv_at hl 0 rfl) ?_
      refine va_sld hx hb hX hbl hbA hS hg dL_law_40 ?_
      refine lv_bipush (v := (63 : Int32)) hx hb dL_law_41 (by decide) ?_
      refine lv_iand hx hb dL_law_43 ?_
      obtain ⟨sx, esx, hk⟩ := lq_s hk
      refine W.eq (g2 := F0 m 44 ls [.int sx]) (by rw [esx]) ?_
      by_cases c0 : sx = (0 : Int32)
      · have hk := it_t c0 hk
        refine lv_tableIn (off := 196) (tgt := 240) hx hb dL_law_44 (by rw [c0]; decide) (by rw [c0]; decide) (by rw [c0]; rfl) (by decide) ?_
        exact law_C0 hfl hZ hx hb hml hown hts hE hK hX hbl hbA (by omega) (by omega) (fun ix X M O H locs ls hk hP hS hl => ih ix X M O H locs ls (cells + 3) (slots + 18) (by omega) (by omega) hk hP hS hl) ix X M O H locs ls hk hP hS hl
      have hk := it_f c0 hk
      by_cases c1 : sx = (1 : Int32)
      · have hk := it_t c1 hk
        refine lv_tableIn (off := 238) (tgt := 282) hx hb dL_law_44 (by rw [c1]; decide) (by rw [c1]; decide) (by rw [c1]; rfl) (by decide) ?_
        exact law_C1 hfl hZ hx hb hml hown hts hE hK hX hbl hbA (by omega) (by omega) (fun ix X M O H locs ls hk hP hS hl => ih ix X M O H locs ls (cells + 3) (slots + 18) (by omega) (by omega) hk hP hS hl) ix X M O H locs ls hk hP hS hl
      have hk := it_f c1 hk
      by_cases c2 : sx = (2 : Int32)
      · have hk := it_t c2 hk
        refine lv_tableIn (off := 251) (tgt := 295) hx hb dL_law_44 (by rw [c2]; decide) (by rw [c2]; decide) (by rw [c2]; rfl) (by decide) ?_
        exact law_C2 hfl hZ hx hb hml hown hts hE hK hX hbl hbA (by omega) (by omega) (fun ix X M O H locs ls hk hP hS hl => ih ix X M O H locs ls (cells + 3) (slots + 18) (by omega) (by omega) hk hP hS hl) ix X M O H locs ls hk hP hS hl
      have hk := it_f c2 hk
      by_cases c3 : sx = (3 : Int32)
      · have hk := it_t c3 hk
        refine lv_tableIn (off := 307) (tgt := 351) hx hb dL_law_44 (by rw [c3]; decide) (by rw [c3]; decide) (by rw [c3]; rfl) (by decide) ?_
        exact law_C3 hfl hZ hx hb hml hown hts hE hK hX hbl hbA (by omega) (by omega) (fun ix X M O H locs ls hk hP hS hl => ih ix X M O H locs ls (cells + 3) (slots + 18) (by omega) (by omega) hk hP hS hl) ix X M O H locs ls hk hP hS hl
      have hk := it_f c3 hk
      by_cases c4 : sx = (4 : Int32)
      · have hk := it_t c4 hk
        refine lv_tableIn (off := 320) (tgt := 364) hx hb dL_law_44 (by rw [c4]; decide) (by rw [c4]; decide) (by rw [c4]; rfl) (by decide) ?_
        exact law_C4 hfl hZ hx hb hml hown hts hE hK hX hbl hbA (by omega) (by omega) (fun ix X M O H locs ls hk hP hS hl => ih ix X M O H locs ls (cells + 3) (slots + 18) (by omega) (by omega) hk hP hS hl) ix X M O H locs ls hk hP hS hl
      have hk := it_f c4 hk
      by_cases c5 : sx = (5 : Int32)
      · have hk := it_t c5 hk
        refine lv_tableIn (off := 348) (tgt := 392) hx hb dL_law_44 (by rw [c5]; decide) (by rw [c5]; decide) (by rw [c5]; rfl) (by decide) ?_
        exact law_C5 hfl hZ hx hb hml hown hts hE hK hX hbl hbA (by omega) (by omega) (fun ix X M O H locs ls hk hP hS hl => ih ix X M O H locs ls (cells + 3) (slots + 18) (by omega) (by omega) hk hP hS hl) ix X M O H locs ls hk hP hS hl
      have hk := it_f c5 hk
      by_cases c6 : sx = (6 : Int32)
      · have hk := it_t c6 hk
        refine lv_tableIn (off := 376) (tgt := 420) hx hb dL_law_44 (by rw [c6]; decide) (by rw [c6]; decide) (by rw [c6]; rfl) (by decide) ?_
        exact law_C6 hfl hZ hx hb hml hown hts hE hK hX hbl hbA (by omega) (by omega) (fun ix X M O H locs ls hk hP hS hl => ih ix X M O H locs ls (cells + 3) (slots + 18) (by omega) (by omega) hk hP hS hl) ix X M O H locs ls hk hP hS hl
      have hk := it_f c6 hk
      by_cases c7 : sx = (7 : Int32)
      · have hk := it_t c7 hk
        refine lv_tableIn (off := 416) (tgt := 460) hx hb dL_law_44 (by rw [c7]; decide) (by rw [c7]; decide) (by rw [c7]; rfl) (by decide) ?_
        exact law_C7 hfl hZ hx hb hml hown hts hE hK hX hbl hbA (by omega) (by omega) (fun ix X M O H locs ls hk hP hS hl => ih ix X M O H locs ls (cells + 3) (slots + 18) (by omega) (by omega) hk hP hS hl) ix X M O H locs ls hk hP hS hl
      have hk := it_f c7 hk
      by_cases c8 : sx = (8 : Int32)
      · have hk := it_t c8 hk
        refine lv_tableIn (off := 444) (tgt := 488) hx hb dL_law_44 (by rw [c8]; decide) (by rw [c8]; decide) (by rw [c8]; rfl) (by decide) ?_
        exact law_C8 hfl hZ hx hb hml hown hts hE hK hX hbl hbA (by omega) (by omega) (fun ix X M O H locs ls hk hP hS hl => ih ix X M O H locs ls (cells + 3) (slots + 18) (by omega) (by omega) hk hP hS hl) ix X M O H locs ls hk hP hS hl
      have hk := it_f c8 hk
      by_cases c9 : sx = (9 : Int32)
      · have hk := it_t c9 hk
        refine lv_tableIn (off := 484) (tgt := 528) hx hb dL_law_44 (by rw [c9]; decide) (by rw [c9]; decide) (by rw [c9]; rfl) (by decide) ?_
        exact law_C9 hfl hZ hx hb hml hown hts hE hK hX hbl hbA (by omega) (by omega) (fun ix X M O H locs ls hk hP hS hl => ih ix X M O H locs ls (cells + 3) (slots + 18) (by omega) (by omega) hk hP hS hl) ix X M O H locs ls hk hP hS hl
      have hk := it_f c9 hk
      by_cases c10 : sx = (10 : Int32)
      · have hk := it_t c10 hk
        refine lv_tableIn (off := 500) (tgt := 544) hx hb dL_law_44 (by rw [c10]; decide) (by rw [c10]; decide) (by rw [c10]; rfl) (by decide) ?_
        exact law_C10 hfl hZ hx hb hml hown hts hE hK hX hbl hbA (by omega) (by omega) (fun ix X M O H locs ls hk hP hS hl => ih ix X M O H locs ls (cells + 3) (slots + 18) (by omega) (by omega) hk hP hS hl) ix X M O H locs ls hk hP hS hl
      have hk := it_f c10 hk
      by_cases c11 : sx = (11 : Int32)
      · have hk := it_t c11 hk
        refine lv_tableIn (off := 516) (tgt := 560) hx hb dL_law_44 (by rw [c11]; decide) (by rw [c11]; decide) (by rw [c11]; rfl) (by decide) ?_
        exact law_C11 hfl hZ hx hb hml hown hts hE hK hX hbl hbA (by omega) (by omega) (fun ix X M O H locs ls hk hP hS hl => ih ix X M O H locs ls (cells + 3) (slots + 18) (by omega) (by omega) hk hP hS hl) ix X M O H locs ls hk hP hS hl
      have hk := it_f c11 hk
      by_cases c12 : sx = (12 : Int32)
      · have hk := it_t c12 hk
        refine lv_tableIn (off := 544) (tgt := 588) hx hb dL_law_44 (by rw [c12]; decide) (by rw [c12]; decide) (by rw [c12]; rfl) (by decide) ?_
        exact law_C12 hfl hZ hx hb hml hown hts hE hK hX hbl hbA (by omega) (by omega) (fun ix X M O H locs ls hk hP hS hl => ih ix X M O H locs ls (cells + 3) (slots + 18) (by omega) (by omega) hk hP hS hl) ix X M O H locs ls hk hP hS hl
      have hk := it_f c12 hk
      by_cases c13 : sx = (13 : Int32)
      · have hk := it_t c13 hk
        refine lv_tableIn (off := 588) (tgt := 632) hx hb dL_law_44 (by rw [c13]; decide) (by rw [c13]; decide) (by rw [c13]; rfl) (by decide) ?_
        exact law_C13 hfl hZ hx hb hml hown hts hE hK hX hbl hbA (by omega) (by omega) (fun ix X M O H locs ls hk hP hS hl => ih ix X M O H locs ls (cells + 3) (slots + 18) (by omega) (by omega) hk hP hS hl) ix X M O H locs ls hk hP hS hl
      have hk := it_f c13 hk
      by_cases c14 : sx = (14 : Int32)
      · have hk := it_t c14 hk
        refine lv_tableIn (off := 604) (tgt := 648) hx hb dL_law_44 (by rw [c14]; decide) (by rw [c14]; decide) (by rw [c14]; rfl) (by decide) ?_
        exact law_C14 hfl hZ hx hb hml hown hts hE hK hX hbl hbA (by omega) (by omega) (fun ix X M O H locs ls hk hP hS hl => ih ix X M O H locs ls (cells + 3) (slots + 18) (by omega) (by omega) hk hP hS hl) ix X M O H locs ls hk hP hS hl
      have hk := it_f c14 hk
      by_cases c15 : sx = (15 : Int32)
      · have hk := it_t c15 hk
        refine lv_tableIn (off := 644) (tgt := 688) hx hb dL_law_44 (by rw [c15]; decide) (by rw [c15]; decide) (by rw [c15]; rfl) (by decide) ?_
        exact law_C15 hfl hZ hx hb hml hown hts hE hK hX hbl hbA (by omega) (by omega) (fun ix X M O H locs ls hk hP hS hl => ih ix X M O H locs ls (cells + 3) (slots + 18) (by omega) (by omega) hk hP hS hl) ix X M O H locs ls hk hP hS hl
      have hk := it_f c15 hk
      by_cases c16 : sx = (16 : Int32)
      · have hk := it_t c16 hk
        refine lv_tableIn (off := 657) (tgt := 701) hx hb dL_law_44 (by rw [c16]; decide) (by rw [c16]; decide) (by rw [c16]; rfl) (by decide) ?_
        exact law_C16 hfl hZ hx hb hml hown hts hE hK hX hbl hbA (by omega) (by omega) (fun ix X M O H locs ls hk hP hS hl => ih ix X M O H locs ls (cells + 3) (slots + 18) (by omega) (by omega) hk hP hS hl) ix X M O H locs ls hk hP hS hl
      have hk := it_f c16 hk
      by_cases c17 : sx = (17 : Int32)
      · have hk := it_t c17 hk
        refine lv_tableIn (off := 699) (tgt := 743) hx hb dL_law_44 (by rw [c17]; decide) (by rw [c17]; decide) (by rw [c17]; rfl) (by decide) ?_
        exact law_C17 hfl hZ hx hb hml hown hts hE hK hX hbl hbA (by omega) (by omega) (fun ix X M O H locs ls hk hP hS hl => ih ix X M O H locs ls (cells + 3) (slots + 18) (by omega) (by omega) hk hP hS hl) ix X M O H locs ls hk hP hS hl
      have hk := it_f c17 hk
      by_cases c18 : sx = (18 : Int32)
      · have hk := it_t c18 hk
        refine lv_tableIn (off := 727) (tgt := 771) hx hb dL_law_44 (by rw [c18]; decide) (by rw [c18]; decide) (by rw [c18]; rfl) (by decide) ?_
        exact law_C18 hfl hZ hx hb hml hown hts hE hK hX hbl hbA (by omega) (by omega) (fun ix X M O H locs ls hk hP hS hl => ih ix X M O H locs ls (cells + 3) (slots + 18) (by omega) (by omega) hk hP hS hl) ix X M O H locs ls hk hP hS hl
      have hk := it_f c18 hk
      by_cases c19 : sx = (19 : Int32)
      · have hk := it_t c19 hk
        refine lv_tableIn (off := 755) (tgt := 799) hx hb dL_law_44 (by rw [c19]; decide) (by rw [c19]; decide) (by rw [c19]; rfl) (by decide) ?_
        exact law_C19 hfl hZ hx hb hml hown hts hE hK hX hbl hbA (by omega) (by omega) (fun ix X M O H locs ls hk hP hS hl => ih ix X M O H locs ls (cells + 3) (slots + 18) (by omega) (by omega) hk hP hS hl) ix X M O H locs ls hk hP hS hl
      have hk := it_f c19 hk
      by_cases c20 : sx = (20 : Int32)
      · have hk := it_t c20 hk
        refine lv_tableIn (off := 795) (tgt := 839) hx hb dL_law_44 (by rw [c20]; decide) (by rw [c20]; decide) (by rw [c20]; rfl) (by decide) ?_
        exact law_C20 hfl hZ hx hb hml hown hts hE hK hX hbl hbA (by omega) (by omega) (fun ix X M O H locs ls hk hP hS hl => ih ix X M O H locs ls (cells + 3) (slots + 18) (by omega) (by omega) hk hP hS hl) ix X M O H locs ls hk hP hS hl
      have hk := it_f c20 hk
      by_cases c21 : sx = (21 : Int32)
      · have hk := it_t c21 hk
        refine lv_tableIn (off := 823) (tgt := 867) hx hb dL_law_44 (by rw [c21]; decide) (by rw [c21]; decide) (by rw [c21]; rfl) (by decide) ?_
        exact law_C21 hfl hZ hx hb hml hown hts hE hK hX hbl hbA (by omega) (by omega) (fun ix X M O H locs ls hk hP hS hl => ih ix X M O H locs ls (cells + 3) (slots + 18) (by omega) (by omega) hk hP hS hl) ix X M O H locs ls hk hP hS hl
      have hk := it_f c21 hk
      by_cases c22 : sx = (22 : Int32)
      · have hk := it_t c22 hk
        refine lv_tableIn (off := 863) (tgt := 907) hx hb dL_law_44 (by rw [c22]; decide) (by rw [c22]; decide) (by rw [c22]; rfl) (by decide) ?_
        exact law_C22 hfl hZ hx hb hml hown hts hE hK hX hbl hbA (by omega) (by omega) (fun ix X M O H locs ls hk hP hS hl => ih ix X M O H locs ls (cells + 3) (slots + 18) (by omega) (by omega) hk hP hS hl) ix X M O H locs ls hk hP hS hl
      have hk := it_f c22 hk
      by_cases c23 : sx = (23 : Int32)
      · have hk := it_t c23 hk
        refine lv_tableIn (off := 891) (tgt := 935) hx hb dL_law_44 (by rw [c23]; decide) (by rw [c23]; decide) (by rw [c23]; rfl) (by decide) ?_
        exact law_C23 hfl hZ hx hb hml hown hts hE hK hX hbl hbA (by omega) (by omega) (fun ix X M O H locs ls hk hP hS hl => ih ix X M O H locs ls (cells + 3) (slots + 18) (by omega) (by omega) hk hP hS hl) ix X M O H locs ls hk hP hS hl
      have hk := it_f c23 hk
      by_cases c24 : sx = (24 : Int32)
      · have hk := it_t c24 hk
        refine lv_tableIn (off := 919) (tgt := 963) hx hb dL_law_44 (by rw [c24]; decide) (by rw [c24]; decide) (by rw [c24]; rfl) (by decide) ?_
        exact law_C24 hfl hZ hx hb hml hown hts hE hK hX hbl hbA (by omega) (by omega) (fun ix X M O H locs ls hk hP hS hl => ih ix X M O H locs ls (cells + 3) (slots + 18) (by omega) (by omega) hk hP hS hl) ix X M O H locs ls hk hP hS hl
      have hk := it_f c24 hk
      by_cases c25 : sx = (25 : Int32)
      · have hk := it_t c25 hk
        refine lv_tableIn (off := 932) (tgt := 976) hx hb dL_law_44 (by rw [c25]; decide) (by rw [c25]; decide) (by rw [c25]; rfl) (by decide) ?_
        exact law_C25 hfl hZ hx hb hml hown hts hE hK hX hbl hbA (by omega) (by omega) (fun ix X M O H locs ls hk hP hS hl => ih ix X M O H locs ls (cells + 3) (slots + 18) (by omega) (by omega) hk hP hS hl) ix X M O H locs ls hk hP hS hl
      have hk := it_f c25 hk
      by_cases c26 : sx = (26 : Int32)
      · have hk := it_t c26 hk
        refine lv_tableIn (off := 972) (tgt := 1016) hx hb dL_law_44 (by rw [c26]; decide) (by rw [c26]; decide) (by rw [c26]; rfl) (by decide) ?_
        exact law_C26 hfl hZ hx hb hml hown hts hE hK hX hbl hbA (by omega) (by omega) (fun ix X M O H locs ls hk hP hS hl => ih ix X M O H locs ls (cells + 3) (slots + 18) (by omega) (by omega) hk hP hS hl) ix X M O H locs ls hk hP hS hl
      have hk := it_f c26 hk
      by_cases c27 : sx = (27 : Int32)
      · have hk := it_t c27 hk
        refine lv_tableIn (off := 1012) (tgt := 1056) hx hb dL_law_44 (by rw [c27]; decide) (by rw [c27]; decide) (by rw [c27]; rfl) (by decide) ?_
        exact law_C27 hfl hZ hx hb hml hown hts hE hK hX hbl hbA (by omega) (by omega) (fun ix X M O H locs ls hk hP hS hl => ih ix X M O H locs ls (cells + 3) (slots + 18) (by omega) (by omega) hk hP hS hl) ix X M O H locs ls hk hP hS hl
      have hk := it_f c27 hk
      by_cases c28 : sx = (28 : Int32)
      · have hk := it_t c28 hk
        refine lv_tableIn (off := 1064) (tgt := 1108) hx hb dL_law_44 (by rw [c28]; decide) (by rw [c28]; decide) (by rw [c28]; rfl) (by decide) ?_
        exact law_C28 hfl hZ hx hb hml hown hts hE hK hX hbl hbA (by omega) (by omega) (fun ix X M O H locs ls hk hP hS hl => ih ix X M O H locs ls (cells + 3) (slots + 18) (by omega) (by omega) hk hP hS hl) ix X M O H locs ls hk hP hS hl
      have hk := it_f c28 hk
      by_cases c29 : sx = (29 : Int32)
      · have hk := it_t c29 hk
        refine lv_tableIn (off := 1120) (tgt := 1164) hx hb dL_law_44 (by rw [c29]; decide) (by rw [c29]; decide) (by rw [c29]; rfl) (by decide) ?_
        exact law_C29 hfl hZ hx hb hml hown hts hE hK hX hbl hbA (by omega) (by omega) (fun ix X M O H locs ls hk hP hS hl => ih ix X M O H locs ls (cells + 3) (slots + 18) (by omega) (by omega) hk hP hS hl) ix X M O H locs ls hk hP hS hl
      have hk := it_f c29 hk
      by_cases c30 : sx = (30 : Int32)
      · have hk := it_t c30 hk
        refine lv_tableIn (off := 1148) (tgt := 1192) hx hb dL_law_44 (by rw [c30]; decide) (by rw [c30]; decide) (by rw [c30]; rfl) (by decide) ?_
        exact law_C30 hfl hZ hx hb hml hown hts hE hK hX hbl hbA (by omega) (by omega) (fun ix X M O H locs ls hk hP hS hl => ih ix X M O H locs ls (cells + 3) (slots + 18) (by omega) (by omega) hk hP hS hl) ix X M O H locs ls hk hP hS hl
      have hk := it_f c30 hk
      by_cases c31 : sx = (31 : Int32)
      · have hk := it_t c31 hk
        refine lv_tableIn (off := 1188) (tgt := 1232) hx hb dL_law_44 (by rw [c31]; decide) (by rw [c31]; decide) (by rw [c31]; rfl) (by decide) ?_
        exact law_C31 hfl hZ hx hb hml hown hts hE hK hX hbl hbA (by omega) (by omega) (fun ix X M O H locs ls hk hP hS hl => ih ix X M O H locs ls (cells + 3) (slots + 18) (by omega) (by omega) hk hP hS hl) ix X M O H locs ls hk hP hS hl
      have hk := it_f c31 hk
      by_cases c32 : sx = (32 : Int32)
      · have hk := it_t c32 hk
        refine lv_tableIn (off := 1217) (tgt := 1261) hx hb dL_law_44 (by rw [c32]; decide) (by rw [c32]; decide) (by rw [c32]; rfl) (by decide) ?_
        exact law_C32 hfl hZ hx hb hml hown hts hE hK hX hbl hbA (by omega) (by omega) (fun ix X M O H locs ls hk hP hS hl => ih ix X M O H locs ls (cells + 3) (slots + 18) (by omega) (by omega) hk hP hS hl) ix X M O H locs ls hk hP hS hl
      have hk := it_f c32 hk
      by_cases c33 : sx = (33 : Int32)
      · have hk := it_t c33 hk
        refine lv_tableIn (off := 1245) (tgt := 1289) hx hb dL_law_44 (by rw [c33]; decide) (by rw [c33]; decide) (by rw [c33]; rfl) (by decide) ?_
        exact law_C33 hfl hZ hx hb hml hown hts hE hK hX hbl hbA (by omega) (by omega) (fun ix X M O H locs ls hk hP hS hl => ih ix X M O H locs ls (cells + 3) (slots + 18) (by omega) (by omega) hk hP hS hl) ix X M O H locs ls hk hP hS hl
      have hk := it_f c33 hk
      by_cases c34 : sx = (34 : Int32)
      · have hk := it_t c34 hk
        refine lv_tableIn (off := 1273) (tgt := 1317) hx hb dL_law_44 (by rw [c34]; decide) (by rw [c34]; decide) (by rw [c34]; rfl) (by decide) ?_
        exact law_C34 hfl hZ hx hb hml hown hts hE hK hX hbl hbA (by omega) (by omega) (fun ix X M O H locs ls hk hP hS hl => ih ix X M O H locs ls (cells + 3) (slots + 18) (by omega) (by omega) hk hP hS hl) ix X M O H locs ls hk hP hS hl
      have hk := it_f c34 hk
      by_cases c35 : sx = (35 : Int32)
      · have hk := it_t c35 hk
        refine lv_tableIn (off := 1301) (tgt := 1345) hx hb dL_law_44 (by rw [c35]; decide) (by rw [c35]; decide) (by rw [c35]; rfl) (by decide) ?_
        exact law_C35 hfl hZ hx hb hml hown hts hE hK hX hbl hbA (by omega) (by omega) (fun ix X M O H locs ls hk hP hS hl => ih ix X M O H locs ls (cells + 3) (slots + 18) (by omega) (by omega) hk hP hS hl) ix X M O H locs ls hk hP hS hl
      have hk := it_f c35 hk
      by_cases c36 : sx = (36 : Int32)
      · have hk := it_t c36 hk
        refine lv_tableIn (off := 1341) (tgt := 1385) hx hb dL_law_44 (by rw [c36]; decide) (by rw [c36]; decide) (by rw [c36]; rfl) (by decide) ?_
        exact law_C36 hfl hZ hx hb hml hown hts hE hK hX hbl hbA (by omega) (by omega) (fun ix X M O H locs ls hk hP hS hl => ih ix X M O H locs ls (cells + 3) (slots + 18) (by omega) (by omega) hk hP hS hl) ix X M O H locs ls hk hP hS hl
      have hk := it_f c36 hk
      by_cases c37 : sx = (37 : Int32)
      · have hk := it_t c37 hk
        refine lv_tableIn (off := 1381) (tgt := 1425) hx hb dL_law_44 (by rw [c37]; decide) (by rw [c37]; decide) (by rw [c37]; rfl) (by decide) ?_
        exact law_C37 hfl hZ hx hb hml hown hts hE hK hX hbl hbA (by omega) (by omega) (fun ix X M O H locs ls hk hP hS hl => ih ix X M O H locs ls (cells + 3) (slots + 18) (by omega) (by omega) hk hP hS hl) ix X M O H locs ls hk hP hS hl
      have hk := it_f c37 hk
      by_cases c38 : sx = (38 : Int32)
      · have hk := it_t c38 hk
        refine lv_tableIn (off := 1421) (tgt := 1465) hx hb dL_law_44 (by rw [c38]; decide) (by rw [c38]; decide) (by rw [c38]; rfl) (by decide) ?_
        exact law_C38 hfl hZ hx hb hml hown hts hE hK hX hbl hbA (by omega) (by omega) (fun ix X M O H locs ls hk hP hS hl => ih ix X M O H locs ls (cells + 3) (slots + 18) (by omega) (by omega) hk hP hS hl) ix X M O H locs ls hk hP hS hl
      have hk := it_f c38 hk
      by_cases c39 : sx = (39 : Int32)
      · have hk := it_t c39 hk
        refine lv_tableIn (off := 1449) (tgt := 1493) hx hb dL_law_44 (by rw [c39]; decide) (by rw [c39]; decide) (by rw [c39]; rfl) (by decide) ?_
        exact law_C39 hfl hZ hx hb hml hown hts hE hK hX hbl hbA (by omega) (by omega) (fun ix X M O H locs ls hk hP hS hl => ih ix X M O H locs ls (cells + 3) (slots + 18) (by omega) (by omega) hk hP hS hl) ix X M O H locs ls hk hP hS hl
      have hk := it_f c39 hk
      by_cases c40 : sx = (40 : Int32)
      · have hk := it_t c40 hk
        refine lv_tableIn (off := 1477) (tgt := 1521) hx hb dL_law_44 (by rw [c40]; decide) (by rw [c40]; decide) (by rw [c40]; rfl) (by decide) ?_
        exact law_C40 hfl hZ hx hb hml hown hts hE hK hX hbl hbA (by omega) (by omega) (fun ix X M O H locs ls hk hP hS hl => ih ix X M O H locs ls (cells + 3) (slots + 18) (by omega) (by omega) hk hP hS hl) ix X M O H locs ls hk hP hS hl
      have hk := it_f c40 hk
      by_cases c41 : sx = (41 : Int32)
      · have hk := it_t c41 hk
        refine lv_tableIn (off := 1505) (tgt := 1549) hx hb dL_law_44 (by rw [c41]; decide) (by rw [c41]; decide) (by rw [c41]; rfl) (by decide) ?_
        exact law_C41 hfl hZ hx hb hml hown hts hE hK hX hbl hbA (by omega) (by omega) (fun ix X M O H locs ls hk hP hS hl => ih ix X M O H locs ls (cells + 3) (slots + 18) (by omega) (by omega) hk hP hS hl) ix X M O H locs ls hk hP hS hl
      have hk := it_f c41 hk
      by_cases c42 : sx = (42 : Int32)
      · have hk := it_t c42 hk
        refine lv_tableIn (off := 1518) (tgt := 1562) hx hb dL_law_44 (by rw [c42]; decide) (by rw [c42]; decide) (by rw [c42]; rfl) (by decide) ?_
        exact law_C42 hfl hZ hx hb hml hown hts hE hK hX hbl hbA (by omega) (by omega) (fun ix X M O H locs ls hk hP hS hl => ih ix X M O H locs ls (cells + 3) (slots + 18) (by omega) (by omega) hk hP hS hl) ix X M O H locs ls hk hP hS hl
      have hk := it_f c42 hk
      by_cases c43 : sx = (43 : Int32)
      · have hk := it_t c43 hk
        refine lv_tableIn (off := 1535) (tgt := 1579) hx hb dL_law_44 (by rw [c43]; decide) (by rw [c43]; decide) (by rw [c43]; rfl) (by decide) ?_
        exact law_C43 hfl hZ hx hb hml hown hts hE hK hX hbl hbA (by omega) (by omega) (fun ix X M O H locs ls hk hP hS hl => ih ix X M O H locs ls (cells + 3) (slots + 18) (by omega) (by omega) hk hP hS hl) ix X M O H locs ls hk hP hS hl
      have hk := it_f c43 hk
      by_cases c44 : sx = (44 : Int32)
      · have hk := it_t c44 hk
        refine lv_tableIn (off := 1564) (tgt := 1608) hx hb dL_law_44 (by rw [c44]; decide) (by rw [c44]; decide) (by rw [c44]; rfl) (by decide) ?_
        exact law_C44 hfl hZ hx hb hml hown hts hE hK hX hbl hbA (by omega) (by omega) (fun ix X M O H locs ls hk hP hS hl => ih ix X M O H locs ls (cells + 3) (slots + 18) (by omega) (by omega) hk hP hS hl) ix X M O H locs ls hk hP hS hl
      have hk := it_f c44 hk
      refine sw_out (lo := 0) (hi := 44) (d := 1577) (tgt := 1621) (x := sx) hx hb dL_law_44 (by decide) (fun j h1 h2 h3 => ?_) ?_
      · rcases (show j = 0 ∨ j = 1 ∨ j = 2 ∨ j = 3 ∨ j = 4 ∨ j = 5 ∨ j = 6 ∨ j = 7 ∨ j = 8 ∨ j = 9 ∨ j = 10 ∨ j = 11 ∨ j = 12 ∨ j = 13 ∨ j = 14 ∨ j = 15 ∨ j = 16 ∨ j = 17 ∨ j = 18 ∨ j = 19 ∨ j = 20 ∨ j = 21 ∨ j = 22 ∨ j = 23 ∨ j = 24 ∨ j = 25 ∨ j = 26 ∨ j = 27 ∨ j = 28 ∨ j = 29 ∨ j = 30 ∨ j = 31 ∨ j = 32 ∨ j = 33 ∨ j = 34 ∨ j = 35 ∨ j = 36 ∨ j = 37 ∨ j = 38 ∨ j = 39 ∨ j = 40 ∨ j = 41 ∨ j = 42 ∨ j = 43 ∨ j = 44 by omega) with rfl | rfl | rfl | rfl | rfl | rfl | rfl | rfl | rfl | rfl | rfl | rfl | rfl | rfl | rfl | rfl | rfl | rfl | rfl | rfl | rfl | rfl | rfl | rfl | rfl | rfl | rfl | rfl | rfl | rfl | rfl | rfl | rfl | rfl | rfl | rfl | rfl | rfl | rfl | rfl | rfl | rfl | rfl | rfl | rfl
        · exact absurd (h3.trans (by decide)) c0
        · exact absurd (h3.trans (by decide)) c1
        · exact absurd (h3.trans (by decide)) c2
        · exact absurd (h3.trans (by decide)) c3
        · exact absurd (h3.trans (by decide)) c4
        · exact absurd (h3.trans (by decide)) c5
        · exact absurd (h3.trans (by decide)) c6
        · exact absurd (h3.trans (by decide)) c7
        · exact absurd (h3.trans (by decide)) c8
        · exact absurd (h3.trans (by decide)) c9
        · exact absurd (h3.trans (by decide)) c10
        · exact absurd (h3.trans (by decide)) c11
        · exact absurd (h3.trans (by decide)) c12
        · exact absurd (h3.trans (by decide)) c13
        · exact absurd (h3.trans (by decide)) c14
        · exact absurd (h3.trans (by decide)) c15
        · exact absurd (h3.trans (by decide)) c16
        · exact absurd (h3.trans (by decide)) c17
        · exact absurd (h3.trans (by decide)) c18
        · exact absurd (h3.trans (by decide)) c19
        · exact absurd (h3.trans (by decide)) c20
        · exact absurd (h3.trans (by decide)) c21
        · exact absurd (h3.trans (by decide)) c22
        · exact absurd (h3.trans (by decide)) c23
        · exact absurd (h3.trans (by decide)) c24
        · exact absurd (h3.trans (by decide)) c25
        · exact absurd (h3.trans (by decide)) c26
        · exact absurd (h3.trans (by decide)) c27
        · exact absurd (h3.trans (by decide)) c28
        · exact absurd (h3.trans (by decide)) c29
        · exact absurd (h3.trans (by decide)) c30
        · exact absurd (h3.trans (by decide)) c31
        · exact absurd (h3.trans (by decide)) c32
        · exact absurd (h3.trans (by decide)) c33
        · exact absurd (h3.trans (by decide)) c34
        · exact absurd (h3.trans (by decide)) c35
        · exact absurd (h3.trans (by decide)) c36
        · exact absurd (h3.trans (by decide)) c37
        · exact absurd (h3.trans (by decide)) c38
        · exact absurd (h3.trans (by decide)) c39
        · exact absurd (h3.trans (by decide)) c40
        · exact absurd (h3.trans (by decide)) c41
        · exact absurd (h3.trans (by decide)) c42
        · exact absurd (h3.trans (by decide)) c43
        · exact absurd (h3.trans (by decide)) c44
      · refine lv_iinc (v := (ix + (4 : Int32))) (lv' := [(5, .int (ix + (4 : Int32))), (4, .ref (Z.2.2 57 0)), (3, .ref (Z.2.2 56 0)), (2, .ref (Z.2.2 26 0)), (1, .ref (Z.2.2 0 0)), (0, .ref b)]) hx hb dL_law_1621 hl (k := 0) rfl rfl (by decide) rfl (fun ls hl => ?_)
        refine lv_goto (tgt := 28) hx hb dL_law_1624 (by decide) ?_
        exact ih (ix + (4 : Int32)) X M O H locs ls cells slots (by omega) (by omega) hk hP hS (lv_sub hl [0, 1, 2, 3, 4, 5] rfl)