set_option maxRecDepth 100000 in
theorem gw_J0 : ∀ w ∈ wsJ0_indexOf_0f7a4, w ∈ lw_tbl := by decide +kernel
set_option maxRecDepth 100000 in
theorem gw_J0g : wsJ0_indexOf_0f7a4.all goodWord = true := by decide +kernel
theorem gw_idx : GoodIn lw_all (wsV RX6 86 RJ0 yJ0_indexOf_0f7a4 wsJ0_indexOf_0f7a4) := by
  intro w h
  unfold wsV at h
  rcases List.mem_append.mp h with h | h
  · simp only [List.mem_cons, List.not_mem_nil, or_false] at h
    rcases h with rfl | rfl | rfl | rfl
    · exact lw_good _ q543
    · exact lw_good _ q544
    · exact lw_good _ q545
    · exact lw_good _ q85
  · have hg := List.all_eq_true.mp gw_J0g w h
    exact ⟨List.mem_filter.mpr ⟨gw_J0 w h, hg⟩, good_of_word hg⟩
variable {p : Program} {l : Launch} {e : Env} {R : Room} {s : State} {m : MethodId} {args : Array Value} {below : List Frame} {meth : Method} {c : Code} {H : Heap} {locs : List Loc} {cells slots : Nat} {Q : State → Prop} {cc : ByteArray} {pc : Nat} {ls : Array Slot} {rest : List Value} {Z : ZT} {X M O : SS}
theorem wc_index {nL : Nat} {x : Int32} {gS gB : Nat} {G : SG} (hfl : l.stackTraces = false) (S : CallFix p m c cc nL s args lw_all RX6) (hE : EV (wA Z s.heap.size) s) (hLE : LE gS gB (wA Z s.heap.size) s) (hP : wP Z G H) (hK : wK Z s) (hS : va_S (wA Z s.heap.size) s.heap H locs) (hsz : ls.size = nL) (hW : (rest.map fun v => v.category).sum ≤ 8) (h1 : 5 ≤ R.frames) (h2 : 103 ≤ R.locals) (hdg : decode cc pc = .ok (.invokevirtual 86, 3)) (hf : cells + 0 ≤ R.cells ∧ slots + 0 ≤ R.slots)
    (kk : ∀ (H1 : Heap) (locs1 : List Loc), wP Z G H1 → va_S (wA Z s.heap.size) s.heap H1 locs1 → W p l e R s m args below meth c H1 locs1 (cells + 0) (slots + 0) Q (F0 m (pc + 3) ls (.int (ixL x) :: rest))) : W p l e R s m args below meth c H locs cells slots Q (F0 m pc ls (.int x :: .ref gS :: rest)) := by
  have hz : ∀ q, va_A [] H.size q → wA Z s.heap.size q := fun q h => h.elim (fun ⟨k, e, h⟩ => by simp at h) (fun h => Or.inr (Nat.le_trans hS.1 h))
  have hKc : va_K Z.1 vwCl [] s := hK.sub (tys' := []) [] rfl
  refine vx_calli (vx_runV (As := [.int x]) S (k_J0_indexOf_0f7a4 l hfl Z.1.1 Z.1.2 gS gB H.size x) (cwV 1 S.2.2.2.2 gw_idx rfl rfl rfl (by decide +kernel) ⟨h1, h2⟩) ⟨fun a U g mk q => by obtain ⟨q0, q1, qE, qP, qK, qD⟩ := q; exact ⟨q0, q1, LE.calling qE, qP, va_K.moved (u := U) (U := U.calling g mk a) (Vm.Alike.refl U.vm) qK, qD⟩, va_Orecv hLE.2.1 hS, fun U hU hW => ⟨rfl, by rw [hU], LE.to hLE hS hU hW hz, fun k q h => by simp at h, va_K.moved hW.alike hKc, ⟨fun i j p q h => by simp at h, fun k q h => by simp at h⟩⟩⟩ rfl rfl hsz rfl (lv_room hW) hdg hf) hS (fun q _ => hz q) hz (fun q _ => hz q) (fun E9 ce9 q9 u9 t9 H1 locs ht hvm hw hB hz1 hk1 hS hc9 hv9 hcl9 => hB.elim) (fun r1 u t H1 locs ht hvm hw hB hz1 hk1 hS1 => ?_)
  obtain rfl : r1 = ixL x := hw
  exact kk H1 locs (wP_kept hP (fun q hq => hk1 q hq (fun h => h.elim (fun ⟨k, e, h⟩ => by simp at h) (fun h => absurd h (Nat.not_le.mpr hq))))) hS1