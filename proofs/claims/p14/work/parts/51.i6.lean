theorem IV.comp {B X Y : SS} (h : IV AR B X) (h2 : IV AR X Y) : IV AR B Y := by
  obtain ⟨⟨a1, a2, a3, a4, a5⟩, a6⟩ := h
  obtain ⟨⟨b1, b2, b3, b4, b5⟩, b6⟩ := h2
  exact ⟨⟨b1, fun k i p z => (b2 k i p z).trans (a2 k i p z), fun k i p z => (b3 k i p z).trans (a3 k i p z), fun k i p z => (b4 k i p z).trans (a4 k i p z), b5⟩, b6⟩
/-- one step of the reference that is no error -/
theorem j181_eq {rc : Int32 → Int32 → SS → (SS → Option (SS × Int32)) → Option (SS × Int32)} {k4 : SS → Option (SS × Int32)} {M : SS} (hM : OKS M) {p q : Nat} (hp : p ≤ 40) (hq : q ≤ 39) {len : Nat} (hlen : len ≤ 24) {pl pn : Nat → Int32} {ic : Int32} {inp : Nat → Int32} {ec : Int32} {exq : Nat → Int32} (he : eM M p q (nI len) pl pn ic inp ec exq) (hw : WH pl len)
    {d : Int32} {s : Nat → Int32} {oc : Int32} {o : Nat → Int32} {dn : Int32} {b a : Nat} (ha : a < len) (hb : nI b ≤ ic) (hb4 : b ≤ 4) (hr : rM M (d, s, oc, o, dn, nI b, nI a)) (hc : isL (pl a)) {v27 : Int32} (hv : (v27 = 0 ∧ ¬ pl a = 110 ∧ ¬ pl a = 105 ∧ ¬ pl a = 100) ∨ (v27 = 1 ∧ (pl a = 110 ∨ pl a = 105 ∨ pl a = 100)))
    (h32 : erA (pl a) ic d oc dn (nI b) (tpA s d) = 32) :
    ∃ M9 b2 a2, f_X7_runs_J181 rc k4 M v27 (pl a) (nI p) (nI a) (nI b) (nI q) = rc (nI a2) (nI b2) M9 k4 ∧ rM M9 (bmp (stA (paC pl) inp (pl a) (pn a) (d, s, oc, o, dn, nI b, nI a))) ∧ IV AR M M9 ∧ (stA (paC pl) inp (pl a) (pn a) (d, s, oc, o, dn, nI b, nI a)).2.2.2.2 = (dn, nI b2, nI a2) ∧ nI b2 ≤ ic ∧ b2 ≤ 4 ∧ a2 ≤ len := by
  obtain ⟨g1, g2, g3, g4, g5, g6⟩ := erA_32 h32
  have hr0 := hr
  obtain ⟨a1, a2, a3, a4, a5⟩ := hr
  simp only at a1 a2 a3 a4 a5
  have r38 : (0 : Int32) ≤ M.1 26 0 38 ∧ M.1 26 0 38 ≤ (12 : Int32) := hM.at1 26 0 38
  have r39 : (0 : Int32) ≤ M.1 26 0 39 ∧ M.1 26 0 39 ≤ (6 : Int32) := hM.at1 26 0 39
  have r40 : (0 : Int32) ≤ M.1 26 0 40 ∧ M.1 26 0 40 ≤ (300 : Int32) := hM.at1 26 0 40
  have ric : (0 : Int32) ≤ M.1 34 0 q ∧ M.1 34 0 q ≤ (4 : Int32) := hM.at1 34 0 q
  obtain ⟨y1, y2, y3, y4, y5, y6⟩ := he
  have k40 : AR 26 0 40 := Or.inr (Or.inr ⟨rfl, Or.inr (Or.inr rfl)⟩)
  have k38 : AR 26 0 38 := Or.inr (Or.inr ⟨rfl, Or.inl rfl⟩)
  have k53 : ∀ p, AR 53 0 p := fun _ => Or.inl rfl
  have i0 : IV AR M M := hM.self
  unfold f_X7_runs_J181
  rw [lq_e, a3]
  have i1 : IV AR M (u1 M 26 0 40 (dn + 1)) := i0.w1 rfl k40 (show (0 : Int32) ≤ dn + 1 ∧ dn + 1 ≤ (300 : Int32) from ⟨by grind, by grind⟩)
  have h1 : rM (u1 M 26 0 40 (dn + 1)) (d, s, oc, o, dn + 1, nI b, nI a) := by
    refine ⟨?_, ?_, ?_, fun j hj => ?_, fun j hj => ?_⟩
    · simp [up_e, a1]
    · simp [up_e, a2]
    · simp [up_e]
    · simp [up_e]; exact a4 j hj
    · simp [up_e]; exact a5 j hj
  have hM1 := i1.oks
  have f27 : ∀ x, (u1 M 26 0 40 (dn + 1)).1 27 0 x = M.1 27 0 x := fun x => up_k (by decide)
  have f29 : (u1 M 26 0 40 (dn + 1)).1 29 0 p = nI len := by rw [up_k (by decide), y1]
  generalize e37 : u1 M 26 0 40 (dn + 1) = M37 at i1 h1 hM1 f27 f29
  have g28 : ∀ x, M37.1 28 0 x = M.1 28 0 x := fun x => by rw [← e37, up_k (by decide)]
  have g36 : ∀ x, M37.1 36 0 x = M.1 36 0 x := fun x => by rw [← e37, up_k (by decide)]
  obtain ⟨b1, b2_, b3, b4, b5⟩ := h1
  simp only at b1 b2_ b3 b4 b5
  have nlt : ∀ x, x < len → (nI len).toNatClampNeg = len := fun _ _ => nI_clamp (by omega)
  have hcl : (nI len).toNatClampNeg = len := nI_clamp (by omega)
  have hpl : ∀ x : Nat, x < len → M37.1 27 0 (24 * p + x) = pl x := fun x hx => by rw [f27]; exact (y2 x (by rw [hcl]; exact hx)).1
  have hpc : (nI p).toNatClampNeg = p := nI_clamp (by omega)
  have hac : (nI a).toNatClampNeg = a := nI_clamp (by omega)
  -- a push
  have push : ∀ (x : Int32) (w b2 : Nat), d < 12 → stA (paC pl) inp (pl a) (pn a) (d, s, oc, o, dn, nI b, nI a) = (d + 1, ups s d.toNatClampNeg x, oc, o, dn, nI b2, nI a + 1) → nI b2 ≤ ic → b2 ≤ 4 → (nI b + nI w = nI b2) → ((pl a = 105 ∧ w = 1) ∨ (¬ pl a = 105 ∧ w = 0)) →
      ∃ M9 b2 a2, f_X7_runs_J257 rc k4 M37 (pl a) (nI b) (nI a) x = rc (nI a2) (nI b2) M9 k4 ∧ rM M9 (bmp (stA (paC pl) inp (pl a) (pn a) (d, s, oc, o, dn, nI b, nI a))) ∧ IV AR M M9 ∧ (stA (paC pl) inp (pl a) (pn a) (d, s, oc, o, dn, nI b, nI a)).2.2.2.2 = (dn, nI b2, nI a2) ∧ nI b2 ≤ ic ∧ b2 ≤ 4 ∧ a2 ≤ len := by
    intro x w b2 hd e hb2 hb24 hbw hw2
    have hvd : vp_in d 12 := vp_of (by decide) (by grind) (show d < (12 : Int32) by grind)
    have ec1 := cl_succ (v := d) (by grind) (by grind)
    have j1 : IV AR M (u1 M37 53 0 d.toNatClampNeg x) := i1.w1f rfl (k53 _) rfl
    have e38 : (u1 M37 53 0 d.toNatClampNeg x).1 26 0 38 = d := by rw [up_k (by decide), b1]
    have j2 : IV AR M (u1 (u1 M37 53 0 d.toNatClampNeg x) 26 0 38 (d + 1)) := j1.w1 rfl k38 (show (0 : Int32) ≤ d + 1 ∧ d + 1 ≤ (12 : Int32) from ⟨by grind, by grind⟩)
    refine ⟨u1 (u1 M37 53 0 d.toNatClampNeg x) 26 0 38 (d + 1), b2, a + 1, ?_, ?_, j2, by rw [e, nI_1], hb2, hb24, by omega⟩
    · unfold f_X7_runs_J257
      rw [b1, gd_t hvd, lq_e]
      rcases hw2 with ⟨z1, z2⟩ | ⟨z1, z2⟩
      · rw [if_pos z1]
        unfold f_X7_runs_J271
        subst z2
        rw [lq_e, lq_e, e38, nI_1]
        rw [show nI b + (1 : Int32) = nI b2 from hbw]
      · rw [if_neg z1]
        unfold f_X7_runs_J271
        subst z2
        rw [lq_e, lq_e, e38, nI_1]
        rw [show nI b + (0 : Int32) = nI b2 from hbw]
    · rw [e]
      refine ⟨?_, ?_, ?_, fun j hj => ?_, fun j hj => ?_⟩
      · simp [up_e, bmp]
      · simp [up_e, bmp, b2_]
      · simp [up_e, bmp, b3]
      · simp only [bmp, ec1] at hj
        simp [up_e, bmp, ups]
        by_cases y : j = d.toNatClampNeg
        · rw [if_pos y, if_pos y]
        · rw [if_neg y, if_neg y, b4 j (by omega)]
      · simp [up_e, bmp]
        exact b5 j hj
  rcases hv with ⟨v0, n110, n105, n100⟩ | ⟨v1, hpush⟩
  · rw [if_pos v0]
    by_cases c91 : pl a = 91
    · have hd : 1 ≤ d := by rw [c91] at g2; exact g2
      have hvd : vp_in (d - 1) 12 := vp_of (by decide) (by grind) (show d - 1 < (12 : Int32) by grind)
      have htp : M37.1 53 0 (d - 1).toNatClampNeg = tpA s d := by
        unfold tpA
        rw [if_pos hd, b4 _ (cl_mono (by grind) (by grind))]
      obtain ⟨c, hcl2, hm⟩ := MT_fwd hw ha c91
      have e : stA (paC pl) inp (pl a) (pn a) (d, s, oc, o, dn, nI b, nI a) = (d, s, oc, o, dn, nI b, if tpA s d = 0 then nI (c + 1) else nI (a + 1)) := by
        simp [stA, c91, hac, paC_l hm, nI_1]
      have hrm : ∀ x : Int32, rM M37 (bmp (d, s, oc, o, dn, nI b, x)) := fun x => ⟨b1, b2_, b3, b4, b5⟩
      rw [if_pos c91, b1, gd_t hvd, htp, e]
      by_cases z : tpA s d = 0
      · refine ⟨M37, b, c + 1, ?_, hrm _, i1, by rw [if_pos z], hb, hb4, by omega⟩
        have hpt : f_X7_partner M37 (nI p) (nI a) 1 = some (nI c) := by
          unfold f_X7_partner
          exact pt_fwd hp hlen f29 hpl hm hcl2 _ 1000 a 0 (by omega) (Nat.le_refl _) (by have := hm.1; omega) (by omega)
        rw [if_pos z, hpt, b0_some, nI_1]
      · refine ⟨M37, b, a + 1, ?_, hrm _, i1, by rw [if_neg z], hb, hb4, by omega⟩
        rw [if_neg z, nI_1]
    rw [if_neg c91]
    by_cases c93 : pl a = 93
    · have hd : 1 ≤ d := by rw [c93] at g2; exact g2
      have hvd : vp_in (d - 1) 12 := vp_of (by decide) (by grind) (show d - 1 < (12 : Int32) by grind)
      have htp : M37.1 53 0 (d - 1).toNatClampNeg = tpA s d := by
        unfold tpA
        rw [if_pos hd, b4 _ (cl_mono (by grind) (by grind))]
      obtain ⟨c, hm⟩ := MT_bwd hw ha c93
      have hca := hm.1
      have e : stA (paC pl) inp (pl a) (pn a) (d, s, oc, o, dn, nI b, nI a) = (d, s, oc, o, dn, nI b, if tpA s d = 0 then nI (a + 1) else nI (c + 1)) := by
        simp [stA, c93, hac, paC_r hm, nI_1]
      have hrm : ∀ x : Int32, rM M37 (bmp (d, s, oc, o, dn, nI b, x)) := fun x => ⟨b1, b2_, b3, b4, b5⟩
      rw [if_pos c93, b1, gd_t hvd, htp, e]
      by_cases z : tpA s d = 0
      · refine ⟨M37, b, a + 1, ?_, hrm _, i1, by rw [if_pos z], hb, hb4, by omega⟩
        rw [if_pos z, nI_1]
      · refine ⟨M37, b, c + 1, ?_, hrm _, i1, by rw [if_neg z], hb, hb4, by omega⟩
        have hpt : f_X7_partner M37 (nI p) (nI a) (-1) = some (nI c) := by
          unfold f_X7_partner
          have := pt_bwd hp hlen f29 hpl hm ha (fun _ => some (-1)) 1000 a 0 (by omega) (by omega) (Nat.le_refl _) (by have := hm.2.1; omega)
          rw [show -(nI 0) = (0 : Int32) from rfl] at this
          exact this
        rw [if_neg z, hpt, b0_some, nI_1]
    rw [if_neg c93]
    have hch : pl a = 37 ∨ pl a = 42 ∨ pl a = 43 ∨ pl a = 45 ∨ pl a = 111 ∨ pl a = 112 ∨ pl a = 115 := by
      unfold isL at hc
      grind
    obtain ⟨⟨M42, u⟩, ex, w1, w2, w3⟩ := ch_eq hM1 (s := s) (o := o) (at_ := nI a) (rd := nI b) (dn := dn + 1) (pa := paC pl) (inp := inp) (m := pn a) (ic := ic) ⟨b1, b2_, b3, b4, b5⟩ hch g2 g4 g6
    refine ⟨M42, b, a + 1, by rw [ex, b1_some, nI_1], ?_, i1.comp w2, ?_, hb, hb4, by omega⟩
    · obtain ⟨x1, x2, x3, x4, x5⟩ := w1
      have es : ∀ y : Int32, stA (paC pl) inp (pl a) (pn a) (d, s, oc, o, y, nI b, nI a) = ((stA (paC pl) inp (pl a) (pn a) (d, s, oc, o, dn, nI b, nI a)).1, (stA (paC pl) inp (pl a) (pn a) (d, s, oc, o, dn, nI b, nI a)).2.1, (stA (paC pl) inp (pl a) (pn a) (d, s, oc, o, dn, nI b, nI a)).2.2.1, (stA (paC pl) inp (pl a) (pn a) (d, s, oc, o, dn, nI b, nI a)).2.2.2.1, y, (stA (paC pl) inp (pl a) (pn a) (d, s, oc, o, dn, nI b, nI a)).2.2.2.2.2) := by
        intro y
        unfold stA
        rcases hch with h | h | h | h | h | h | h <;> simp [h]
      rw [es (dn + 1)] at x1 x2 x3 x4 x5
      have ed : (stA (paC pl) inp (pl a) (pn a) (d, s, oc, o, dn, nI b, nI a)).2.2.2.2.1 = dn := by
        unfold stA
        rcases hch with h | h | h | h | h | h | h <;> simp [h]
      refine ⟨x1, x2, ?_, x4, x5⟩
      show M42.1 26 0 40 = (stA (paC pl) inp (pl a) (pn a) (d, s, oc, o, dn, nI b, nI a)).2.2.2.2.1 + 1
      rw [ed]
      exact x3
    · rw [nI_1] at w3
      unfold stA at *
      rcases hch with h | h | h | h | h | h | h <;> (simp [h] at w3 ⊢; try exact nI_1 a)
  · rw [if_neg (by rw [v1]; decide)]
    have hd : d < 12 := g5 hpush
    by_cases c110 : pl a = 110
    · have hix := ix_lin (p := p) (v := a) 24 (by decide) hp (by omega)
      have hvx : vp_in (((24 : Int32) * nI p) + nI a) 984 := by
        rw [show (24 : Int32) = nI 24 from rfl, hix.1]
        exact nI_in (by omega) (by decide)
      rw [if_pos c110, gd_t hvx, show (((24 : Int32) * nI p) + nI a).toNatClampNeg = 24 * p + a from hix.2, g28, (y2 a (by rw [hcl]; exact ha)).2]
      exact push (pn a) 0 b hd (by simp [stA, c110]) hb hb4 (by rw [nI_add]; rfl) (Or.inr ⟨by rw [c110]; decide, rfl⟩)
    rw [if_neg c110]
    by_cases c100 : pl a = 100
    · have hd1 : 1 ≤ d := by rw [c100] at g2; exact g2
      have hvd : vp_in (d - 1) 12 := vp_of (by decide) (by grind) (show d - 1 < (12 : Int32) by grind)
      have htp : M37.1 53 0 (d - 1).toNatClampNeg = tpA s d := by
        unfold tpA
        rw [if_pos hd1, b4 _ (cl_mono (by grind) (by grind))]
      rw [if_pos c100, b1, gd_t hvd, htp]
      exact push (tpA s d) 0 b hd (by simp [stA, c100]) hb hb4 (by rw [nI_add]; rfl) (Or.inr ⟨by rw [c100]; decide, rfl⟩)
    rw [if_neg c100]
    have c105 : pl a = 105 := by
      rcases hpush with h | h | h
      · exact absurd h c110
      · exact h
      · exact absurd h c100
    have hlt := g3 c105
    have hb3 : b < 4 := by
      have : nI b < nI 4 := by
        show nI b < (4 : Int32)
        grind
      exact (nI_ltI (by omega) (by decide)).mp this
    have hix := ix_lin (p := q) (v := b) 4 (by decide) (by omega) (by omega)
    have hvx : vp_in (((4 : Int32) * nI q) + nI b) 160 := by
      rw [show (4 : Int32) = nI 4 from rfl, hix.1]
      exact nI_in (by omega) (by decide)
    have hbc : (nI b).toNatClampNeg = b := nI_clamp (by omega)
    have hbi : b < ic.toNatClampNeg := by
      have := cl_mono (x := nI b) (nI_pos' (by omega)) hlt
      rw [hbc] at this
      exact this
    rw [gd_t hvx, show (((4 : Int32) * nI q) + nI b).toNatClampNeg = 4 * q + b from hix.2, g36, y4 b hbi]
    exact push (inp b) 1 (b + 1) hd (by simp [stA, c105, hbc, nI_1]) (by rw [← nI_1]; grind) (by omega) (by rw [nI_add]) (Or.inl ⟨c105, rfl⟩)
