/-- what the class's machine reads of program and test -/
def eX (X : SS) (i0 i1 i2 : Nat) (len : Int32) (pl pn : Nat → Int32) (ic : Int32) (inp : Nat → Int32) (ec : Int32) (exq : Nat → Int32) : Prop :=
  X.1 1 i1 2 = len ∧ (∀ a : Nat, a < len.toNatClampNeg → X.1 2 i1 a = pl a ∧ X.1 3 i1 a = pn a) ∧ (∀ a c : Nat, MT pl a c → c < len.toNatClampNeg → X.1 19 i0 a = nI c ∧ X.1 19 i0 c = nI a) ∧ X.1 4 i2 2 = ic ∧ (∀ j : Nat, j < ic.toNatClampNeg → X.1 5 i2 j = inp j) ∧ X.1 4 i2 3 = ec ∧ ∀ j : Nat, j < ec.toNatClampNeg → X.1 6 i2 j = exq j
theorem eX_keep {X Y : SS} {i0 i1 i2 : Nat} {len : Int32} {pl pn : Nat → Int32} {ic : Int32} {inp : Nat → Int32} {ec : Int32} {exq : Nat → Int32} (h : eX X i0 i1 i2 len pl pn ic inp ec exq) (hk : ∀ k i p, k ≠ 16 → k ≠ 17 → k ≠ 18 → Y.1 k i p = X.1 k i p) : eX Y i0 i1 i2 len pl pn ic inp ec exq := by
  obtain ⟨h1, h2, h3, h4, h5, h6, h7⟩ := h
  have k1 := fun i p => hk 1 i p (by decide) (by decide) (by decide)
  have k2 := fun i p => hk 2 i p (by decide) (by decide) (by decide)
  have k3 := fun i p => hk 3 i p (by decide) (by decide) (by decide)
  have k4 := fun i p => hk 4 i p (by decide) (by decide) (by decide)
  have k5 := fun i p => hk 5 i p (by decide) (by decide) (by decide)
  have k6 := fun i p => hk 6 i p (by decide) (by decide) (by decide)
  have k19 := fun i p => hk 19 i p (by decide) (by decide) (by decide)
  unfold eX
  simp only [k1, k2, k3, k4, k5, k6, k19]
  exact ⟨h1, h2, h3, h4, h5, h6, h7⟩
theorem ps_eq {X : SS} (hX : OKS X) (i0 i1 i2 : Nat) {len : Int32} {pl pn : Nat → Int32} {ic : Int32} {inp : Nat → Int32} {ec : Int32} {exq : Nat → Int32} {c : Int32} (m : Int32) {d : Int32} {s : Nat → Int32} {oc : Int32} {o : Nat → Int32} {dn rd at_ : Int32} (hr : rX X i0 (d, s, oc, o, dn, rd, at_)) (he : eX X i0 i1 i2 len pl pn ic inp ec exq)
    (hw : WH pl len.toNatClampNeg) (hlen : len ≤ 24) (hat : at_ < len) (hc : c = pl at_.toNatClampNeg)
    (h32 : erA c ic d oc dn rd (tpA s d) = 32) : ok (f_X1_perform X i0 c m i2) (fun r => rX r.1 i0 (stA (paC pl) inp c m (d, s, oc, o, dn, rd, at_))) := by
  obtain ⟨g1, g2, g3, g4, g5, g6⟩ := erA_32 h32
  obtain ⟨h1, h2, h3, h4, h5, h6, h7⟩ := hr
  obtain ⟨y1, y2, y3, y4, y5, y6, y7⟩ := he
  simp only at h1 h2 h3 h4 h5 h6 h7
  have r4 : (0 : Int32) ≤ X.1 16 i0 4 ∧ X.1 16 i0 4 ≤ (12 : Int32) := hX.at1 16 i0 4
  have r5 : (0 : Int32) ≤ X.1 16 i0 5 ∧ X.1 16 i0 5 ≤ (6 : Int32) := hX.at1 16 i0 5
  have r7 : (0 : Int32) ≤ X.1 16 i0 7 ∧ X.1 16 i0 7 ≤ (4 : Int32) := hX.at1 16 i0 7
  have r8 : (0 : Int32) ≤ X.1 16 i0 8 ∧ X.1 16 i0 8 ≤ (24 : Int32) := hX.at1 16 i0 8
  have rc : (0 : Int32) ≤ X.1 4 i2 2 ∧ X.1 4 i2 2 ≤ (4 : Int32) := hX.at1 4 i2 2
  obtain ⟨n0, n1⟩ := nu_eq hX i0 h1 h6
  have hv8 : vp_in (X.1 16 i0 8) 24 := vp_of (by decide) r8.1 (show X.1 16 i0 8 < (24 : Int32) by grind)
  have hplc : at_.toNatClampNeg < len.toNatClampNeg := cl_mono (by grind) hat
  -- one number for two
  have two : ∀ x : Int32, 2 ≤ d → ok (b1 (f_X1_replace X i0 2 x) (fun X15 _ => lq (u1 X15 16 i0 8 (X.1 16 i0 8 + 1)) (fun X17 => some (X17, ())))) (fun r => rX r.1 i0 (d - 1, ups s (d - 2).toNatClampNeg x, oc, o, dn, rd, at_ + 1)) := by
    intro x hd
    rw [rep_eq hX i0 2 x (by decide) (by grind) (by grind), b1_some, lq_e]
    have ez : X.1 16 i0 4 - 2 = d - 2 := by grind
    rw [ez]
    refine ok_some ⟨?_, ?_, ?_, ?_, ?_, fun j hj => ?_, fun j hj => ?_⟩
    · simp [up_e]; grind
    · simp [up_e, h2]
    · simp [up_e, h3]
    · simp [up_e, h4]
    · simp [up_e, h5]
    · simp only at hj
      simp [up_e, ups]
      have := cl_mono (x := d - 1) (y := d) (by grind) (by grind)
      rw [h6 j (by omega)]
    · simp only at hj
      simp [up_e]
      exact h7 j hj
  -- one number more
  have one : ∀ x : Int32, d < 12 → ok (b1 (f_X1_replace X i0 0 x) (fun X15 _ => lq (u1 X15 16 i0 8 (X.1 16 i0 8 + 1)) (fun X17 => some (X17, ())))) (fun r => rX r.1 i0 (d + 1, ups s d.toNatClampNeg x, oc, o, dn, rd, at_ + 1)) := by
    intro x hd
    rw [rep_eq hX i0 0 x (by decide) (by grind) (by grind), b1_some, lq_e]
    have ez : X.1 16 i0 4 - 0 = d := by grind
    rw [ez]
    have ec1 := cl_succ (v := d) (by grind) (by grind)
    refine ok_some ⟨?_, ?_, ?_, ?_, ?_, fun j hj => ?_, fun j hj => ?_⟩
    · simp [up_e]
    · simp [up_e, h2]
    · simp [up_e, h3]
    · simp [up_e, h4]
    · simp [up_e, h5]
    · simp only [ec1] at hj
      simp [up_e, ups]
      by_cases q : j = d.toNatClampNeg
      · rw [if_pos q, if_pos q]
      · rw [if_neg q, if_neg q, h6 j (by omega)]
    · simp only at hj
      simp [up_e]
      exact h7 j hj
  unfold f_X1_perform
  rw [n0, n1, b0_some, b0_some, lq_e]
  by_cases c37 : c = 37
  · have z := g4 c37
    have hd : 2 ≤ d := by rw [c37] at g2; exact g2
    rw [if_pos c37, if_neg z, gd_t z]
    have e : stA (paC pl) inp c m (d, s, oc, o, dn, rd, at_) = (d - 1, ups s (d - 2).toNatClampNeg (blA s d - blA s d / tpA s d * tpA s d), oc, o, dn, rd, at_ + 1) := by
      simp [stA, opA, c37, z]
    rw [e]
    exact two _ hd
  rw [if_neg c37]
  by_cases c42 : c = 42
  · have hd : 2 ≤ d := by rw [c42] at g2; exact g2
    rw [if_pos c42]
    have e : stA (paC pl) inp c m (d, s, oc, o, dn, rd, at_) = (d - 1, ups s (d - 2).toNatClampNeg (blA s d * tpA s d), oc, o, dn, rd, at_ + 1) := by
      simp [stA, opA, c42]
    rw [e]
    exact two _ hd
  rw [if_neg c42]
  by_cases c43 : c = 43
  · have hd : 2 ≤ d := by rw [c43] at g2; exact g2
    rw [if_pos c43]
    have e : stA (paC pl) inp c m (d, s, oc, o, dn, rd, at_) = (d - 1, ups s (d - 2).toNatClampNeg (blA s d + tpA s d), oc, o, dn, rd, at_ + 1) := by
      simp [stA, opA, c43]
    rw [e]
    exact two _ hd
  rw [if_neg c43]
  by_cases c45 : c = 45
  · have hd : 2 ≤ d := by rw [c45] at g2; exact g2
    rw [if_pos c45]
    have e : stA (paC pl) inp c m (d, s, oc, o, dn, rd, at_) = (d - 1, ups s (d - 2).toNatClampNeg (blA s d - tpA s d), oc, o, dn, rd, at_ + 1) := by
      simp [stA, opA, c45]
    rw [e]
    exact two _ hd
  rw [if_neg c45]
  -- the place alone
  have plc : ∀ x : Int32, rX (u1 X 16 i0 8 x) i0 (d, s, oc, o, dn, rd, x) := by
    intro x
    refine ⟨?_, ?_, ?_, ?_, ?_, fun j hj => ?_, fun j hj => ?_⟩
    · simp [up_e, h1]
    · simp [up_e, h2]
    · simp [up_e, h3]
    · simp [up_e, h4]
    · simp [up_e]
    · simp [up_e]
      exact h6 j hj
    · simp [up_e]
      exact h7 j hj
  by_cases c91 : c = 91
  · rw [if_pos c91]
    have e : stA (paC pl) inp c m (d, s, oc, o, dn, rd, at_) = (d, s, oc, o, dn, rd, if tpA s d = 0 then paC pl at_.toNatClampNeg + 1 else at_ + 1) := by
      simp [stA, c91]
    rw [e]
    by_cases z : tpA s d = 0
    · rw [if_pos z, gd_t hv8, lq_e, lq_e, if_pos z]
      obtain ⟨q, hq, hm⟩ := MT_fwd hw hplc (by rw [← hc]; exact c91)
      rw [h5, paC_l hm, (y3 _ _ hm hq).1]
      exact ok_some (plc _)
    · rw [if_neg z, lq_e, if_neg z, h5]
      exact ok_some (plc _)
  rw [if_neg c91]
  by_cases c93 : c = 93
  · rw [if_pos c93]
    have e : stA (paC pl) inp c m (d, s, oc, o, dn, rd, at_) = (d, s, oc, o, dn, rd, if tpA s d = 0 then at_ + 1 else paC pl at_.toNatClampNeg + 1) := by
      simp [stA, c93]
    rw [e]
    by_cases z : tpA s d = 0
    · rw [if_pos z, lq_e, if_pos z, h5]
      exact ok_some (plc _)
    · rw [if_neg z, gd_t hv8, lq_e, lq_e, if_neg z]
      obtain ⟨q, hm⟩ := MT_bwd hw hplc (by rw [← hc]; exact c93)
      rw [h5, paC_r hm, (y3 _ _ hm hplc).2]
      exact ok_some (plc _)
  rw [if_neg c93]
  by_cases c100 : c = 100
  · rw [if_pos c100]
    have e : stA (paC pl) inp c m (d, s, oc, o, dn, rd, at_) = (d + 1, ups s d.toNatClampNeg (tpA s d), oc, o, dn, rd, at_ + 1) := by
      simp [stA, c100]
    rw [e]
    exact one _ (g5 (Or.inr (Or.inr c100)))
  rw [if_neg c100]
  by_cases c105 : c = 105
  · rw [if_pos c105]
    have hlt := g3 c105
    have e : stA (paC pl) inp c m (d, s, oc, o, dn, rd, at_) = (d + 1, ups s d.toNatClampNeg (inp rd.toNatClampNeg), oc, o, dn, rd + 1, at_ + 1) := by
      simp [stA, c105]
    have hv7 : vp_in (X.1 16 i0 7) 4 := vp_of (by decide) r7.1 (show X.1 16 i0 7 < (4 : Int32) by grind)
    have en : f_X1_nextInput X i0 i2 = some (u1 X 16 i0 7 (rd + 1), inp rd.toNatClampNeg) := by
      unfold f_X1_nextInput
      rw [if_pos (by rw [h4, y4]; exact hlt), lq_e, up_s, show X.1 16 i0 7 + 1 - 1 = X.1 16 i0 7 by grind, gd_t hv7, up_k (by decide), h4, y5 _ (cl_mono (by grind) hlt)]
    rw [e, en, b1_some]
    have hd := g5 (Or.inr (Or.inl c105))
    have hX7 : OKS (u1 X 16 i0 7 (rd + 1)) := by
      have q : IV TT X (u1 X 16 i0 7 (rd + 1)) := IV.w1 hX rfl trivial (show (0 : Int32) ≤ rd + 1 ∧ rd + 1 ≤ (4 : Int32) from ⟨by grind, by grind⟩)
      exact q.oks
    have ez : (u1 X 16 i0 7 (rd + 1)).1 16 i0 4 = d := by rw [up_p (by decide), h1]
    rw [rep_eq hX7 i0 0 _ (by decide) (by grind) (by grind), b1_some, lq_e, show (u1 X 16 i0 7 (rd + 1)).1 16 i0 4 - 0 = d by grind]
    have ec1 := cl_succ (v := d) (by grind) (by grind)
    refine ok_some ⟨?_, ?_, ?_, ?_, ?_, fun j hj => ?_, fun j hj => ?_⟩
    · simp [up_e]
    · simp [up_e, h2]
    · simp [up_e, h3]
    · simp [up_e]
    · simp [up_e, h5]
    · simp only [ec1] at hj
      simp [up_e, ups]
      by_cases q : j = d.toNatClampNeg
      · rw [if_pos q, if_pos q]
      · rw [if_neg q, if_neg q, h6 j (by omega)]
    · simp only at hj
      simp [up_e]
      exact h7 j hj
  rw [if_neg c105]
  by_cases c110 : c = 110
  · rw [if_pos c110]
    have e : stA (paC pl) inp c m (d, s, oc, o, dn, rd, at_) = (d + 1, ups s d.toNatClampNeg m, oc, o, dn, rd, at_ + 1) := by
      simp [stA, c110]
    rw [e]
    exact one _ (g5 (Or.inl c110))
  rw [if_neg c110]
  have ep : 1 ≤ d → f_X1_pop X i0 = some (u1 X 16 i0 4 (d - 1), ()) := by
    intro hd
    unfold f_X1_pop
    rw [if_neg (show ¬ X.1 16 i0 4 ≤ 0 by grind), lq_e, h1]
  by_cases c111 : c = 111
  · have hd : 1 ≤ d := by rw [c111] at g2; exact g2
    have hoc := g6 c111
    rw [if_pos c111, ep hd, b1_some]
    have e : stA (paC pl) inp c m (d, s, oc, o, dn, rd, at_) = (d - 1, s, oc + 1, ups o oc.toNatClampNeg (tpA s d), dn, rd, at_ + 1) := by
      simp [stA, c111]
    have hv5 : vp_in oc 6 := vp_of (by decide) (by grind) (show oc < (6 : Int32) by grind)
    have ew : f_X1_write (u1 X 16 i0 4 (d - 1)) i0 (tpA s d) = some (u1 (u1 (u1 X 16 i0 4 (d - 1)) 18 i0 oc.toNatClampNeg (tpA s d)) 16 i0 5 (oc + 1), ()) := by
      unfold f_X1_write
      rw [up_p (by decide), h2, if_neg (show ¬ (6 : Int32) ≤ oc by grind), gd_t hv5, lq_e, lq_e, up_k (by decide), up_p (by decide), h2]
    rw [e, ew, b1_some, lq_e]
    have ec1 := cl_succ (v := oc) (by grind) (by grind)
    refine ok_some ⟨?_, ?_, ?_, ?_, ?_, fun j hj => ?_, fun j hj => ?_⟩
    · simp [up_e]
    · simp [up_e]
    · simp [up_e, h3]
    · simp [up_e, h4]
    · simp [up_e, h5]
    · simp only at hj
      simp [up_e]
      have := cl_mono (x := d - 1) (y := d) (by grind) (by grind)
      exact h6 j (by omega)
    · simp only [ec1] at hj
      simp [up_e, ups]
      by_cases q : j = oc.toNatClampNeg
      · rw [if_pos q, if_pos q]
      · rw [if_neg q, if_neg q, h7 j (by omega)]
  rw [if_neg c111]
  by_cases c112 : c = 112
  · have hd : 1 ≤ d := by rw [c112] at g2; exact g2
    rw [if_pos c112, ep hd, b1_some, lq_e]
    have e : stA (paC pl) inp c m (d, s, oc, o, dn, rd, at_) = (d - 1, s, oc, o, dn, rd, at_ + 1) := by
      simp [stA, c112]
    rw [e]
    refine ok_some ⟨?_, ?_, ?_, ?_, ?_, fun j hj => ?_, fun j hj => ?_⟩
    · simp [up_e]
    · simp [up_e, h2]
    · simp [up_e, h3]
    · simp [up_e, h4]
    · simp [up_e, h5]
    · simp only at hj
      simp [up_e]
      have := cl_mono (x := d - 1) (y := d) (by grind) (by grind)
      exact h6 j (by omega)
    · simp only at hj
      simp [up_e]
      exact h7 j hj
  rw [if_neg c112]
  by_cases c115 : c = 115
  · have hd : 2 ≤ d := by rw [c115] at g2; exact g2
    rw [if_pos c115]
    have e : stA (paC pl) inp c m (d, s, oc, o, dn, rd, at_) = (d, ups (ups s (d - 2).toNatClampNeg (tpA s d)) (d - 1).toNatClampNeg (blA s d), oc, o, dn, rd, at_ + 1) := by
      simp [stA, c115]
    have e2 := rep_eq hX i0 2 (tpA s d) (by decide) (by grind) (by grind)
    rw [show X.1 16 i0 4 - 2 = d - 2 by grind] at e2
    have hX2 : OKS (u1 (u1 (u1 X 16 i0 4 (d - 2)) 17 i0 (d - 2).toNatClampNeg (tpA s d)) 16 i0 4 (d - 2 + 1)) := by
      have q1 : IV TT X (u1 X 16 i0 4 (d - 2)) := IV.w1 hX rfl trivial (show (0 : Int32) ≤ d - 2 ∧ d - 2 ≤ (12 : Int32) from ⟨by grind, by grind⟩)
      have q2 : IV TT X (u1 (u1 X 16 i0 4 (d - 2)) 17 i0 (d - 2).toNatClampNeg (tpA s d)) := IV.w1f q1 rfl trivial rfl
      have q3 : IV TT X (u1 (u1 (u1 X 16 i0 4 (d - 2)) 17 i0 (d - 2).toNatClampNeg (tpA s d)) 16 i0 4 (d - 2 + 1)) := IV.w1 q2 rfl trivial (show (0 : Int32) ≤ d - 2 + 1 ∧ d - 2 + 1 ≤ (12 : Int32) from ⟨by grind, by grind⟩)
      exact q3.oks
    have ez : (u1 (u1 (u1 X 16 i0 4 (d - 2)) 17 i0 (d - 2).toNatClampNeg (tpA s d)) 16 i0 4 (d - 2 + 1)).1 16 i0 4 = d - 1 := by rw [up_s]; grind
    have e3 := rep_eq hX2 i0 0 (blA s d) (by decide) (by grind) (by grind)
    rw [ez, show d - 1 - 0 = d - 1 by grind, show d - 1 + 1 = d by grind] at e3
    rw [e, e2, b1_some, e3, b1_some, lq_e]
    have l1 := cl_mono (x := d - 2) (y := d - 1) (by grind) (by grind)
    refine ok_some ⟨?_, ?_, ?_, ?_, ?_, fun j hj => ?_, fun j hj => ?_⟩
    · simp [up_e]
    · simp [up_e, h2]
    · simp [up_e, h3]
    · simp [up_e, h4]
    · simp [up_e, h5]
    · simp only at hj
      simp [up_e, ups]
      rw [h6 j hj]
    · simp only at hj
      simp [up_e]
      exact h7 j hj
  rw [if_neg c115, lq_e]
  have e : stA (paC pl) inp c m (d, s, oc, o, dn, rd, at_) = (d, s, oc, o, dn, rd, at_ + 1) := by
    simp [stA, c37, c42, c43, c45, c91, c93, c100, c105, c110, c111, c112, c115]
  rw [e, h5]
  exact ok_some (plc _)
