/-! test, fix: the tests of one kata change, and its works are judged anew -/
theorem cl_inj {x y : Int32} (hx : 0 ≤ x) (hy : 0 ≤ y) (h : x.toNatClampNeg = y.toNatClampNeg) : x = y := by
  rw [← cl_nI hx, ← cl_nI hy, h]
def KV (X Y : SS) (k : Nat) : Prop := ∀ k2 : Nat, k2 < 8 → k2 ≠ k → Y.1 7 k2 1 = X.1 7 k2 1 ∧ ∀ t : Nat, t < 5 → Y.1 4 (5 * k2 + t) 2 = X.1 4 (5 * k2 + t) 2 ∧ Y.1 4 (5 * k2 + t) 3 = X.1 4 (5 * k2 + t) 3 ∧ Y.1 5 (5 * k2 + t) = X.1 5 (5 * k2 + t) ∧ Y.1 6 (5 * k2 + t) = X.1 6 (5 * k2 + t)
theorem KV.vd {X Y : SS} (hX : OKS X) {k : Nat} (h : KV X Y k) {i k2 : Nat} (hp : KP X Y i) (hk : k2 < 8) (hn : k2 ≠ k) : VD Y i k2 = VD X i k2 := by
  obtain ⟨h7, h4⟩ := h k2 hk hn
  have r7 : (0 : Int32) ≤ X.1 7 k2 1 ∧ X.1 7 k2 1 ≤ (5 : Int32) := hX.at1 7 k2 1
  have h5 : (X.1 7 k2 1).toNatClampNeg ≤ 5 := cl_le r7.2 (by decide)
  have e : ∀ t, t < 5 → CD Y i (5 * k2 + t) = CD X i (5 * k2 + t) := fun t ht_ => by
    obtain ⟨a, b, c, d⟩ := h4 t ht_
    unfold CD
    rw [a, b, c, d, hp.1, hp.2.1, hp.2.2]
  refine VD_of ⟨fun z t ht_ => ?_, fun z t ht_ => ?_⟩
  · rw [← e _ (by omega)]
    exact z t (by rw [h7]; exact ht_)
  · rw [h7] at ht_
    rw [e _ (by omega)]
    exact z t ht_
theorem VD_n (X : SS) (i k : Nat) : ¬ VD X i k = 99 := by
  rcases VD_2 X i k with z | z <;> rw [z] <;> decide
/-- as INV, but works of kata k from v on may be judged by old tests -/
def JU (k v : Nat) (X : SS) : Prop := ROM X ∧ INV0 X ∧ ∀ w : Nat, w < WK X → ¬ X.1 12 w 12 = 0 → PRG X (w + 1) w ∧ ¬ X.1 12 w 11 = 99 ∧ ((¬ (X.1 12 w 8).toNatClampNeg = k ∨ w < v) → X.1 12 w 11 = VD X (w + 1) (X.1 12 w 8).toNatClampNeg)
theorem JU.inv {k v : Nat} {X : SS} (h : JU k v X) (hv : WK X ≤ v) : INV X := ⟨h.1, fun w hw z => ⟨(h.2.2 w hw z).1, (h.2.2 w hw z).2.2 (Or.inr (by omega))⟩, h.2.1⟩
theorem JU.of {k : Nat} {X : SS} (h : INV X) : JU k 0 X := ⟨h.1, h.2.2, fun w hw z => by
  obtain ⟨a, b⟩ := h.2.1 w hw z
  exact ⟨a, by rw [b]; exact VD_n _ _ _, fun _ => b⟩⟩
theorem JU.keep {k : Nat} {X Y : SS} (hX : OKS X) (hk : k < 8) (f : ∀ a i p : Nat, IC a i p → ¬ ((a = 4 ∨ a = 5 ∨ a = 6) ∧ 5 * k ≤ i ∧ i < 5 * k + 5) → ¬ (a = 7 ∧ i = k) → Y.1 a i p = X.1 a i p) (hs : ∀ w : Nat, Y.2.1 12 w 10 = X.2.1 12 w 10) (hr : ∀ m j : Nat, Y.2.2.1 10 m j = X.2.2.1 10 m j) (h : JU k 0 X) : JU k 0 Y := by
  have q : ∀ a i p : Nat, IC a i p → ¬ (a = 4 ∨ a = 5 ∨ a = 6 ∨ a = 7) → Y.1 a i p = X.1 a i p := fun a i p z1 z2 => f a i p z1 (by omega) (by omega)
  have hkp : ∀ i : Nat, 1 ≤ i → KP X Y i := fun i h => ⟨q 1 i 2 (by first | (simp [IC]; done) | (simp [IC]; omega)) (by omega), funext fun a => q 2 i a (by first | (simp [IC]; done) | (simp [IC]; omega)) (by omega), funext fun a => q 3 i a (by first | (simp [IC]; done) | (simp [IC]; omega)) (by omega)⟩
  have hkv : KV X Y k := fun k2 h1 h2 => ⟨f 7 k2 1 (by first | (simp [IC]; done) | (simp [IC]; omega)) (by omega) (by omega), fun t ht_ => ⟨f 4 _ 2 (by first | (simp [IC]; done) | (simp [IC]; omega)) (by omega) (by omega), f 4 _ 3 (by first | (simp [IC]; done) | (simp [IC]; omega)) (by omega) (by omega), funext fun a => f 5 _ a (by first | (simp [IC]; done) | (simp [IC]; omega)) (by omega) (by omega), funext fun a => f 6 _ a (by first | (simp [IC]; done) | (simp [IC]; omega)) (by omega) (by omega)⟩⟩
  have h12 : ∀ w p : Nat, p = 5 ∨ p = 6 ∨ p = 8 ∨ p = 11 ∨ p = 12 → Y.1 12 w p = X.1 12 w p := fun w p z => q 12 w p (by first | (simp [IC]; done) | (simp [IC]; omega)) (by omega)
  have e11 : Y.1 0 0 11 = X.1 0 0 11 := q 0 0 11 (by first | (simp [IC]; done) | (simp [IC]; omega)) (by omega)
  have eW : WK Y = WK X := by
    unfold WK
    rw [e11]
  obtain ⟨a1, a2, a3⟩ := h
  refine ⟨?_, ⟨?_, ?_, ?_, ?_⟩, fun w hw z => ?_⟩
  · unfold ROM at a1 ⊢
    rw [eW, q 0 0 13 (by first | (simp [IC]; done) | (simp [IC]; omega)) (by omega), nbX_cong (X := X) (Y := Y) _ (fun j _ => by rw [h12 j 12 (by omega)])]
    exact a1
  · exact vot_keep (fun v => ⟨h12 v 5 (by omega), h12 v 6 (by omega)⟩) (fun v m => ⟨q 14 v m (by first | (simp [IC]; done) | (simp [IC]; omega)) (by omega), q 15 v m (by first | (simp [IC]; done) | (simp [IC]; omega)) (by omega)⟩) a2.1
  · exact cpy_keep hX a2.2.2.1 (fun i h => hkp i (by omega)) (fun m => q 9 m 2 (by first | (simp [IC]; done) | (simp [IC]; omega)) (by omega)) (fun m j => q 11 m j (by first | (simp [IC]; done) | (simp [IC]; omega)) (by omega)) hr (by omega) (fun v _ => hs v) a2.2.1
  · exact ref_keep hr a2.2.2.1
  · exact cha_keep e11 (q 0 0 12 (by first | (simp [IC]; done) | (simp [IC]; omega)) (by omega)) (fun a => q 24 0 a (by first | (simp [IC]; done) | (simp [IC]; omega)) (by omega)) (fun v => by rw [h12 v 11 (by omega)]) a2.2.2.2
  · rw [eW] at hw
    rw [h12 w 12 (by omega)] at z
    obtain ⟨b1, b2, b3⟩ := a3 w hw z
    rw [h12 w 11 (by omega), h12 w 8 (by omega)]
    refine ⟨(hkp (w + 1) (by omega)).prg (hs w) b1, b2, fun c => ?_⟩
    have hn : ¬ (X.1 12 w 8).toNatClampNeg = k := c.elim id (fun y => absurd y (by omega))
    rw [hkv.vd hX (hkp (w + 1) (by omega)) (k8_lt hX w) hn]
    exact b3 (Or.inl hn)
/-- a bodied work gets another verdict -/
theorem set_state {X Y : SS} {v : Nat} {x : Int32} (hX : OKS X) (h99 : ¬ X.1 12 v 11 = 99) (hx : ¬ x = 99) (hYv : Y.1 12 v 11 = x) (f : ∀ k i p : Nat, k < 16 ∨ 20 < k → ¬ (k = 12 ∧ i = v ∧ p = 11) → Y.1 k i p = X.1 k i p) (hs : ∀ w : Nat, Y.2.1 12 w 10 = X.2.1 12 w 10) (hr : ∀ m j : Nat, Y.2.2.1 10 m j = X.2.2.1 10 m j) : (ROM X → ROM Y) ∧ (INV0 X → INV0 Y) ∧ WK Y = WK X ∧ KT X Y ∧ ∀ i : Nat, KP X Y i := by
  have hkt : KT X Y := ⟨fun t _ => ⟨f 4 t 2 (by omega) (by omega), f 4 t 3 (by omega) (by omega), funext fun a => f 5 t a (by omega) (by omega), funext fun a => f 6 t a (by omega) (by omega)⟩, fun k => f 7 k 1 (by omega) (by omega)⟩
  have hkp : ∀ i : Nat, KP X Y i := fun i => ⟨f 1 i 2 (by omega) (by omega), funext fun a => f 2 i a (by omega) (by omega), funext fun a => f 3 i a (by omega) (by omega)⟩
  have eW : WK Y = WK X := by
    unfold WK
    rw [f 0 0 11 (by omega) (by omega)]
  refine ⟨fun a1 => ?_, fun a2 => ⟨?_, ?_, ?_, ?_⟩, eW, hkt, hkp⟩
  · unfold ROM at a1 ⊢
    rw [eW, f 0 0 13 (by omega) (by omega), nbX_cong (X := X) (Y := Y) _ (fun j _ => by rw [f 12 j 12 (by omega) (by omega)])]
    exact a1
  · exact vot_keep (fun w => ⟨f 12 w 5 (by omega) (by omega), f 12 w 6 (by omega) (by omega)⟩) (fun w m => ⟨f 14 w m (by omega) (by omega), f 15 w m (by omega) (by omega)⟩) a2.1
  · exact cpy_keep hX a2.2.2.1 (fun i _ => hkp i) (fun m => f 9 m 2 (by omega) (by omega)) (fun m j => f 11 m j (by omega) (by omega)) hr (by omega) (fun w _ => hs w) a2.2.1
  · exact ref_keep hr a2.2.2.1
  · refine cha_keep (f 0 0 11 (by omega) (by omega)) (f 0 0 12 (by omega) (by omega)) (fun a => f 24 0 a (by omega) (by omega)) (fun w => ?_) a2.2.2.2
    by_cases y : w = v
    · rw [y, hYv]
      exact ⟨fun z => absurd z hx, fun z => absurd z h99⟩
    · rw [f 12 w 11 (by omega) (by omega)]
theorem sj_L38 {p0 : Int32} (hp : (0 : Int32) ≤ p0 ∧ p0 ≤ (7 : Int32)) : ∀ (n v : Nat) (b : Int32) (X : SS), 41 ≤ v + n → v ≤ WK X → OKS X → JU p0.toNatClampNeg v X → ok (f_X6_setTest_L38 p0 n (nI v) b X (fun v10 X11 => some (X11, v10))) (fun r => OKS r.1 ∧ INV r.1) := by
  intro n
  induction n with
  | zero =>
    intro v b X h1 h2 hX
    have := WK_40 hX
    omega
  | succ n ih =>
    intro v b X h1 h2 hX hj
    have hW := WK_40 hX
    have eW := WK_n hX
    rw [f_X6_setTest_L38]
    show ok (if X.1 0 0 11 ≤ nI v then some (X, b) else _) _
    rw [← eW]
    refine ok_ite (fun c => ?_) (fun c => ?_)
    · rw [nI_leI (by omega) (by omega)] at c
      exact ok_some ⟨hX, hj.inv c⟩
    · rw [nI_leI (by omega) (by omega)] at c
      refine ok_gd (nI_in (by omega) (by decide)) (fun _ => ?_)
      rw [nI_clamp (by omega), nI_1]
      have skip : (¬ X.1 12 v 12 = 0 → ¬ (X.1 12 v 8).toNatClampNeg = p0.toNatClampNeg) → JU p0.toNatClampNeg (v + 1) X := fun z => ⟨hj.1, hj.2.1, fun w hw b => ⟨(hj.2.2 w hw b).1, (hj.2.2 w hw b).2.1, fun q => (hj.2.2 w hw b).2.2 (by
        by_cases y : w = v
        · subst y
          exact Or.inl (z b)
        · rcases q with q | q
          · exact Or.inl q
          · exact Or.inr (by omega))⟩⟩
      have r8 : (0 : Int32) ≤ X.1 12 v 8 ∧ X.1 12 v 8 ≤ (7 : Int32) := hX.at1 12 v 8
      refine ok_ite (fun z => ih (v + 1) b X (by omega) (by omega) hX (skip (fun y => absurd z y))) (fun z => ?_)
      refine ok_ite (fun e8 => ?_) (fun e8 => ih (v + 1) b X (by omega) (by omega) hX (skip (fun _ y => e8 (cl_inj r8.1 hp.1 y))))
      obtain ⟨b1, b2, b3⟩ := hj.2.2 v (by omega) z
      rw [lq_e]
      refine ok_b1 (vd_eq hX b1.1) (fun X21 v20 y => ?_)
      obtain ⟨y1, y2, y3⟩ := y
      simp only at y1 y2 y3
      have rv : (0 : Int32) ≤ v20 ∧ v20 ≤ (65535 : Int32) ∧ ¬ v20 = 99 := by
        rw [y3]
        rcases VD_2 X (v + 1) (X.1 12 v 8).toNatClampNeg with z | z <;> rw [z] <;> decide
      refine ok_gd (okc_of rv.1 rv.2.1) (fun _ => ok_lq (fun X24 e24 => ?_))
      have h24 : OKS X24 := by rw [e24]; have i : IV TT X21 (u1 X21 12 v 11 v20) := IV.w1 y1 rfl trivial ⟨rv.1, rv.2.1⟩; exact i.oks
      have e11 : X24.1 12 v 11 = v20 := by rw [e24, up_s]
      have f24 : ∀ k i p : Nat, k < 16 ∨ 20 < k → ¬ (k = 12 ∧ i = v ∧ p = 11) → X24.1 k i p = X.1 k i p := fun k i p g1 g2 => by
        rw [e24, up_e, if_neg g2]
        exact y2.1 k i p g1
      obtain ⟨c1, c2, c3, c4, c5⟩ := set_state hX b2 rv.2.2 e11 f24 (fun w => by rw [e24]; exact y2.2.1 12 w 10) (fun m j => by rw [e24]; exact y2.2.2 10 m j)
      have j24 : JU p0.toNatClampNeg (v + 1) X24 := by
        refine ⟨c1 hj.1, c2 hj.2.1, fun w hw zz => ?_⟩
        rw [c3] at hw
        rw [f24 12 w 12 (by omega) (by omega)] at zz
        obtain ⟨d1, d2, d3⟩ := hj.2.2 w hw zz
        rw [f24 12 w 8 (by omega) (by omega), c4.vd hX (c5 (w + 1)) (k8_lt hX w)]
        refine ⟨(c5 (w + 1)).prg (by rw [e24]; exact y2.2.1 12 w 10) d1, ?_, fun q => ?_⟩
        · by_cases y : w = v
          · rw [y, e11]; exact rv.2.2
          · rw [f24 12 w 11 (by omega) (by omega)]; exact d2
        · by_cases y : w = v
          · rw [y, e11]; exact y3
          · rw [f24 12 w 11 (by omega) (by omega)]
            exact d3 (by
              rcases q with q | q
              · exact Or.inl q
              · exact Or.inr (by omega))
      refine ok_ite (fun _ => ?_) (fun _ => ?_)
      · rw [lq_e]
        exact ih (v + 1) _ X24 (by omega) (by omega) h24 j24
      · rw [lq_e]
        exact ih (v + 1) _ X24 (by omega) (by omega) h24 j24
theorem setTest_inv {X : SS} (hX : OKS X) {p0 : Int32} (hp : (0 : Int32) ≤ p0 ∧ p0 ≤ (7 : Int32)) {j : Nat} (hj : j < 5) (hi : JU p0.toNatClampNeg 0 X) : ok (f_X6_setTest X p0 (5 * p0.toNatClampNeg + j)) (fun r => OKS r.1 ∧ INV r.1) := by
  have hk8 : p0.toNatClampNeg < 8 := cl_lt (vp_of (by decide) hp.1 (show p0 < (8 : Int32) by grind))
  unfold f_X6_setTest
  refine ok_lq (fun X1 e1 => ?_)
  have h1 : OKS X1 := by rw [e1]; have i : IV TT X (u1 X 0 0 14 (X.1 0 0 14 + 1)) := IV.w1f hX rfl trivial rfl; exact i.oks
  have k1 : ∀ k i p : Nat, ¬ (k = 0 ∧ i = 0 ∧ p = 14) → X1.1 k i p = X.1 k i p := fun k i p h => by rw [e1, up_e, if_neg h]
  have g1 : X1.2 = X.2 := by rw [e1]; rfl
  generalize hi2 : 5 * p0.toNatClampNeg + j = i2
  refine ok_b1 (ok_and (w_X4_take X1 h1 i2 40) (tk_eq h1 (i0 := i2) (i1 := 40) (by omega))) (fun X3 v2 w => ?_)
  obtain ⟨w3, t1, t2, t3, t4, t5⟩ := w
  have h3 : OKS X3 := w3.1.oks
  have k3 : ∀ k i p : Nat, ¬ (i = i2 ∧ (k = 4 ∨ k = 5 ∨ k = 6)) → X3.1 k i p = X1.1 k i p := fun k i p h => by
    by_cases y : i = i2
    · exact w3.1.same (by simp; omega)
    · exact t5 k i p y
  have g3 : ∀ k i p : Nat, X3.2.1 k i p = X1.2.1 k i p := fun k i p => w3.1.same2 (by simp)
  have g3' : ∀ k i p : Nat, X3.2.2.1 k i p = X1.2.2.1 k i p := fun k i p => w3.1.same3 (by simp)
  refine ok_lq (fun X5 e5 => ?_)
  have h5 : OKS X5 := by rw [e5]; have i : IV TT X3 (u1 X3 4 i2 4 (X3.1 0 0 14)) := IV.w1f h3 rfl trivial rfl; exact i.oks
  have k5 : ∀ k i p : Nat, ¬ (k = 4 ∧ i = i2) → X5.1 k i p = X3.1 k i p := fun k i p h => by rw [e5, up_e, if_neg (fun z => h ⟨z.1, z.2.1⟩)]
  have g5 : X5.2 = X3.2 := by rw [e5]; rfl
  have e6 : f_X4_erase X5 40 = some (u1 (u1 X5 4 40 2 0) 4 40 3 0, ()) := rfl
  rw [e6, b1_some]
  have q6 : IV TT X5 (u1 X5 4 40 2 0) := IV.w1 h5 rfl trivial (show (0 : Int32) ≤ (0 : Int32) ∧ (0 : Int32) ≤ (4 : Int32) from ⟨by decide, by decide⟩)
  have q7 : IV TT X5 (u1 (u1 X5 4 40 2 0) 4 40 3 0) := IV.w1 q6 rfl trivial (show (0 : Int32) ≤ (0 : Int32) ∧ (0 : Int32) ≤ (6 : Int32) from ⟨by decide, by decide⟩)
  have k7 : ∀ k i p : Nat, ¬ (k = 4 ∧ i = 40) → (u1 (u1 X5 4 40 2 0) 4 40 3 0).1 k i p = X5.1 k i p := fun k i p h => by rw [up_e, if_neg (fun z => h ⟨z.1, z.2.1⟩), up_e, if_neg (fun z => h ⟨z.1, z.2.1⟩)]
  have g7 : (u1 (u1 X5 4 40 2 0) 4 40 3 0).2 = X5.2 := rfl
  generalize u1 (u1 X5 4 40 2 0) 4 40 3 0 = X7 at q7 k7 g7
  refine sj_L38 hp 1000 0 0 X7 (by omega) (Nat.zero_le _) q7.oks (JU.keep hX hk8 (fun a i p z1 z2 z3 => ?_) (fun w => ?_) (fun m j => ?_) hi)
  · have z4 : a = 4 → i < 40 := fun h => by subst h; simp [IC] at z1; omega
    have z0 : a = 0 → ¬ p = 14 := fun h => by subst h; simp [IC] at z1; omega
    rw [k7 a i p (by omega), k5 a i p (by omega), k3 a i p (by omega), k1 a i p (by omega)]
  · rw [g7, g5, g3, g1]
  · rw [g7, g5, g3', g1]
theorem test_inv {X : SS} (hX : OKS X) (hi : INV X) (p : Int32) : ok (f_X6_test X p) (fun r => OKS r.1 ∧ INV r.1) := by
  have r9 : (0 : Int32) ≤ X.1 0 0 9 ∧ X.1 0 0 9 ≤ (8 : Int32) := hX.at1 0 0 9
  unfold f_X6_test
  by_cases c : p < 0 ∨ X.1 0 0 9 ≤ p
  · rw [kataAt_no c, e0_inr]
    exact ok_some ⟨hX, hi⟩
  rw [kataAt_in hX c, e0_inl]
  have hp : (0 : Int32) ≤ p ∧ p ≤ (7 : Int32) := ⟨by grind, by grind⟩
  have hk8 : p.toNatClampNeg < 8 := cl_lt (vp_of (by decide) hp.1 (show p < (8 : Int32) by grind))
  refine ok_ite (fun a => ?_) (fun _ => ok_some ⟨hX, hi⟩)
  rw [lq_e]
  refine ok_lq (fun X9 e9 => ?_)
  have r7 : (0 : Int32) ≤ X.1 7 p.toNatClampNeg 1 ∧ X.1 7 p.toNatClampNeg 1 ≤ (5 : Int32) := hX.at1 7 _ 1
  have hv : vp_in (X.1 7 p.toNatClampNeg 1) 5 := vp_of (by decide) r7.1 (show X.1 7 p.toNatClampNeg 1 < (5 : Int32) from a)
  refine ok_gd hv (fun _ => ?_)
  have h9 : OKS X9 := by rw [e9]; have i : IV TT X (u1 X 7 p.toNatClampNeg 1 (X.1 7 p.toNatClampNeg 1 + 1)) := IV.w1 hX rfl trivial (show (0 : Int32) ≤ X.1 7 p.toNatClampNeg 1 + 1 ∧ X.1 7 p.toNatClampNeg 1 + 1 ≤ (5 : Int32) from ⟨by grind, by grind⟩); exact i.oks
  refine ok_b1 (setTest_inv h9 hp (cl_lt hv) ?_) (fun X12 v11 q => ok_some q)
  exact JU.keep hX hk8 (fun a i p z1 z2 z3 => by rw [e9, up_e, if_neg (fun z => z3 ⟨z.1, z.2.1⟩)]) (fun _ => by rw [e9]; rfl) (fun _ _ => by rw [e9]; rfl) (JU.of hi)
theorem fix_inv {X : SS} (hX : OKS X) (hi : INV X) (p q : Int32) : ok (f_X6_fix X p q) (fun r => OKS r.1 ∧ INV r.1) := by
  have r9 : (0 : Int32) ≤ X.1 0 0 9 ∧ X.1 0 0 9 ≤ (8 : Int32) := hX.at1 0 0 9
  unfold f_X6_fix
  by_cases c : p < 0 ∨ X.1 0 0 9 ≤ p
  · rw [kataAt_no c, e0_inr]
    exact ok_some ⟨hX, hi⟩
  rw [kataAt_in hX c, e0_inl]
  by_cases d : q < 0 ∨ X.1 7 p.toNatClampNeg 1 ≤ q
  · rw [testAt_no d, e0_inr]
    exact ok_some ⟨hX, hi⟩
  rw [testAt_in hX d, e0_inl]
  have r7 : (0 : Int32) ≤ X.1 7 p.toNatClampNeg 1 ∧ X.1 7 p.toNatClampNeg 1 ≤ (5 : Int32) := hX.at1 7 _ 1
  have hq : q.toNatClampNeg < 5 := cl_lt (vp_of (by decide) (by grind) (show q < (5 : Int32) by grind))
  exact ok_b1 (setTest_inv hX ⟨by grind, by grind⟩ hq (JU.of hi)) (fun X12 v11 q => ok_some q)
