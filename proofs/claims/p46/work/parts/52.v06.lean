/-! the parts of the invariant, kept by few cells -/
def KT (X Y : SS) : Prop := (∀ t : Nat, t < 40 → Y.1 4 t 2 = X.1 4 t 2 ∧ Y.1 4 t 3 = X.1 4 t 3 ∧ Y.1 5 t = X.1 5 t ∧ Y.1 6 t = X.1 6 t) ∧ ∀ k : Nat, Y.1 7 k 1 = X.1 7 k 1
def KP (X Y : SS) (i : Nat) : Prop := Y.1 1 i 2 = X.1 1 i 2 ∧ Y.1 2 i = X.1 2 i ∧ Y.1 3 i = X.1 3 i
theorem KT.vd {X Y : SS} (hX : OKS X) (h : KT X Y) {i k : Nat} (hp : KP X Y i) (hk : k < 8) : VD Y i k = VD X i k := by
  have r7 : (0 : Int32) ≤ X.1 7 k 1 ∧ X.1 7 k 1 ≤ (5 : Int32) := hX.at1 7 k 1
  have h5 : (X.1 7 k 1).toNatClampNeg ≤ 5 := cl_le r7.2 (by decide)
  have e : ∀ t, t < 40 → CD Y i t = CD X i t := fun t ht_ => by
    obtain ⟨a, b, c, d⟩ := h.1 t ht_
    unfold CD
    rw [a, b, c, d, hp.1, hp.2.1, hp.2.2]
  refine VD_of ⟨fun z t ht_ => ?_, fun z t ht_ => ?_⟩
  · rw [← e _ (by omega)]
    exact z t (by rw [h.2]; exact ht_)
  · rw [h.2] at ht_
    rw [e _ (by omega)]
    exact z t ht_
theorem KP.prg {X Y : SS} {i w : Nat} (hp : KP X Y i) (hs : Y.2.1 12 w 10 = X.2.1 12 w 10) (h : PRG X i w) : PRG Y i w := by
  unfold PRG
  rw [hp.1, hp.2.1, hp.2.2, hs]
  exact h
theorem bd1_keep {X Y : SS} (hX : OKS X) (h : KT X Y) {v : Nat} (hp : KP X Y (v + 1)) (hs : Y.2.1 12 v 10 = X.2.1 12 v 10) (h8 : Y.1 12 v 8 = X.1 12 v 8) (h11 : Y.1 12 v 11 = X.1 12 v 11) (h12 : Y.1 12 v 12 = X.1 12 v 12) (hb : BD1 X v) : BD1 Y v := by
  intro z
  rw [h12] at z
  obtain ⟨h1, h2⟩ := hb z
  rw [h11, h8, h.vd hX hp (k8_lt hX v)]
  exact ⟨hp.prg hs h1, h2⟩
theorem vot_keep {X Y : SS} (h5 : ∀ w : Nat, Y.1 12 w 5 = X.1 12 w 5 ∧ Y.1 12 w 6 = X.1 12 w 6) (h14 : ∀ w m : Nat, Y.1 14 w m = X.1 14 w m ∧ Y.1 15 w m = X.1 15 w m) (hv : VOT X) : VOT Y := by
  intro w hw
  obtain ⟨h1, h2, h3⟩ := hv w hw
  rw [(h5 w).1, (h5 w).2, sW_cong (X := X) (Y := Y) 10 (fun j _ => (h14 w j).2), sV_cong (X := X) (Y := Y) 10 (fun j _ => ⟨(h14 w j).2, (h14 w j).1⟩)]
  exact ⟨h1, h2, fun m hm => by rw [(h14 w m).1, (h14 w m).2]; exact h3 m hm⟩
theorem cpy_keep {X Y : SS} (hX : OKS X) (hr : REF X) (hp : ∀ i : Nat, 41 ≤ i → KP X Y i) (h9 : ∀ m : Nat, Y.1 9 m 2 = X.1 9 m 2) (h11 : ∀ m j : Nat, Y.1 11 m j = X.1 11 m j) (h10 : ∀ m j : Nat, Y.2.2.1 10 m j = X.2.2.1 10 m j) (hw : WK X ≤ WK Y) (hs : ∀ w : Nat, w < WK X → Y.2.1 12 w 10 = X.2.1 12 w 10) (hc : CPY X) : CPY Y := by
  intro m hm j hj
  rw [h9] at hj
  have := c9_2 hX m
  rw [h11, h10]
  obtain ⟨a, b, c⟩ := hc m hm j hj
  exact ⟨a, by omega, (hp _ (ref_1 hr hm (show j < 3 by omega))).prg (hs _ b) c⟩
theorem ref_keep {X Y : SS} (h10 : ∀ m j : Nat, Y.2.2.1 10 m j = X.2.2.1 10 m j) (hr : REF X) : REF Y := by
  intro m hm
  simp only [h10]
  exact hr m hm
theorem cha_keep {X Y : SS} (h11 : Y.1 0 0 11 = X.1 0 0 11) (h12 : Y.1 0 0 12 = X.1 0 0 12) (h24 : ∀ a : Nat, Y.1 24 0 a = X.1 24 0 a) (hs : ∀ w : Nat, Y.1 12 w 11 = 99 ↔ X.1 12 w 11 = 99) (hc : CHA X) : CHA Y := by
  unfold CHA
  rw [h11, h12, c9_cong (X := X) (Y := Y) _ (fun j _ => hs j)]
  refine ⟨fun a ha => ?_, fun a b ha hb => ?_, hc.2.2⟩
  · rw [h24]
    exact ⟨(hc.1 a ha).1, (hs _).mpr (hc.1 a ha).2⟩
  · rw [h24, h24]
    exact hc.2.1 a b ha hb
/-! the archive -/
def FDX (X Y : SS) : Prop := (∀ k i p : Nat, k < 16 ∨ 20 < k → k ≠ 13 → Y.1 k i p = X.1 k i p) ∧ (∀ k i p : Nat, Y.2.1 k i p = X.2.1 k i p) ∧ ∀ k i p : Nat, Y.2.2.1 k i p = X.2.2.1 k i p
theorem db_L12 {X : SS} (hX : OKS X) {w : Nat} {P : SS × Unit → Prop} : ∀ (n v : Nat) (Y : SS) (k2 : SS → Option (SS × Unit)), 6 ≤ v + n → v ≤ 5 → OKS Y → FDX X Y → (∀ Z : SS, OKS Z → FDX X Z → ok (k2 Z) P) → ok (f_X6_dropBody_L12 X w n (nI v) Y k2) P := by
  intro n
  induction n with
  | zero => intro v Y k2 h1 h2; omega
  | succ n ih =>
    intro v Y k2 h1 h2 hY hf hk
    have r7 : (0 : Int32) ≤ Y.1 7 ((X.1 12 w 8)).toNatClampNeg 1 ∧ Y.1 7 ((X.1 12 w 8)).toNatClampNeg 1 ≤ (5 : Int32) := hY.at1 7 _ 1
    rw [f_X6_dropBody_L12]
    refine ok_ite (fun c => hk Y hY hf) (fun c => ?_)
    have hv : v < 5 := by
      have : nI v < nI 5 := show nI v < (5 : Int32) by grind
      exact (nI_ltI (by omega) (by decide)).mp this
    refine ok_gd (nI_in hv (by decide)) (fun _ => ok_b1 (ex_FB hY (w + 1) _) (fun X18 v17 q => ok_gd (nI_in hv (by decide)) (fun _ => ?_)))
    obtain ⟨q1, q2⟩ := q
    simp only at q1 q2
    rw [lq_e, nI_clamp (by omega), nI_1]
    have i1 : IV TT X18 (u1 X18 13 w v (X18.1 16 1 6)) := IV.w1f q1 rfl trivial rfl
    refine ih (v + 1) _ k2 (by omega) (by omega) i1.oks ⟨fun k i p h1 h2 => ?_, fun k i p => ?_, fun k i p => ?_⟩ hk
    · rw [up_k h2, q2.1 k i p h1]
      exact hf.1 k i p h1 h2
    · exact (q2.2.1 k i p).trans (hf.2.1 k i p)
    · exact (q2.2.2 k i p).trans (hf.2.2 k i p)
theorem db_eq {X : SS} (hX : OKS X) (w : Nat) : ok (f_X6_dropBody X w) (fun r => OKS r.1 ∧ r.1.1 12 w 12 = 0 ∧ ((X.1 12 w 11 = 102 ∧ r.1.1 12 w 11 = 98) ∨ (¬ X.1 12 w 11 = 102 ∧ r.1.1 12 w 11 = 112)) ∧ (∀ k i p : Nat, k < 16 ∨ 20 < k → k ≠ 13 → ¬ (k = 1 ∧ i = w + 1) → ¬ (k = 12 ∧ i = w ∧ (p = 11 ∨ p = 12 ∨ p = 13 ∨ p = 14)) → r.1.1 k i p = X.1 k i p) ∧ (∀ k i p : Nat, r.1.2.1 k i p = X.2.1 k i p) ∧ ∀ k i p : Nat, r.1.2.2.1 k i p = X.2.2.1 k i p) := by
  have r8 : (0 : Int32) ≤ X.1 12 w 8 ∧ X.1 12 w 8 ≤ (7 : Int32) := hX.at1 12 w 8
  unfold f_X6_dropBody
  refine ok_gd (vp_of (by decide) r8.1 (show X.1 12 w 8 < (8 : Int32) by grind)) (fun _ => ?_)
  refine db_L12 hX 1000 0 X _ (by omega) (by omega) hX ⟨fun _ _ _ _ _ => rfl, fun _ _ _ => rfl, fun _ _ _ => rfl⟩ (fun X3 h3 f3 => ?_)
  refine ok_lq (fun X6 e6 => ok_lq (fun X7 e7 => ok_lq (fun X8 e8 => ?_)))
  have h6 : OKS X6 := by rw [e6]; have i : IV TT X3 (u1 X3 12 w 13 (X3.1 7 (X.1 12 w 8).toNatClampNeg 1)) := IV.w1 h3 rfl trivial (show (0 : Int32) ≤ _ ∧ _ ≤ (5 : Int32) from h3.at1 7 _ 1); exact i.oks
  have h7 : OKS X7 := by rw [e7]; have i : IV TT X6 (u1 X6 12 w 14 (X6.1 0 0 14)) := IV.w1f h6 rfl trivial rfl; exact i.oks
  have h8 : OKS X8 := by rw [e8]; have i : IV TT X7 (u1 X7 12 w 12 0) := IV.w1 h7 rfl trivial (show (0 : Int32) ≤ (0 : Int32) ∧ (0 : Int32) ≤ (1 : Int32) from ⟨by decide, by decide⟩); exact i.oks
  have f8 : ∀ k i p : Nat, k < 16 ∨ 20 < k → k ≠ 13 → ¬ (k = 12 ∧ i = w ∧ (p = 12 ∨ p = 13 ∨ p = 14)) → X8.1 k i p = X.1 k i p := fun k i p g1 g2 g3 => by
    rw [e8, up_e, if_neg (fun z => g3 ⟨z.1, z.2.1, Or.inl z.2.2⟩), e7, up_e, if_neg (fun z => g3 ⟨z.1, z.2.1, Or.inr (Or.inr z.2.2)⟩), e6, up_e, if_neg (fun z => g3 ⟨z.1, z.2.1, Or.inr (Or.inl z.2.2)⟩)]
    exact f3.1 k i p g1 g2
  have g8 : X8.2 = X3.2 := by rw [e8, e7, e6]; rfl
  unfold f_X3_erase
  rw [lq_e, b1_some]
  have i10 : IV TT X8 (u1 X8 1 (w + 1) 2 0) := IV.w1 h8 rfl trivial (show (0 : Int32) ≤ (0 : Int32) ∧ (0 : Int32) ≤ (24 : Int32) from ⟨by decide, by decide⟩)
  have e11 : (u1 X8 1 (w + 1) 2 0).1 12 w 11 = X.1 12 w 11 := by rw [up_k (by decide)]; exact f8 12 w 11 (by omega) (by omega) (by omega)
  have e12 : (u1 X8 1 (w + 1) 2 0).1 12 w 12 = 0 := by rw [up_k (by decide), e8, up_s]
  rw [e11]
  have fin : ∀ x : Int32, (0 : Int32) ≤ x ∧ x ≤ (65535 : Int32) → OKS (u1 (u1 X8 1 (w + 1) 2 0) 12 w 11 x) ∧ (u1 (u1 X8 1 (w + 1) 2 0) 12 w 11 x).1 12 w 12 = 0 ∧ (u1 (u1 X8 1 (w + 1) 2 0) 12 w 11 x).1 12 w 11 = x ∧ (∀ k i p : Nat, k < 16 ∨ 20 < k → k ≠ 13 → ¬ (k = 1 ∧ i = w + 1) → ¬ (k = 12 ∧ i = w ∧ (p = 11 ∨ p = 12 ∨ p = 13 ∨ p = 14)) → (u1 (u1 X8 1 (w + 1) 2 0) 12 w 11 x).1 k i p = X.1 k i p) ∧ (∀ k i p : Nat, (u1 (u1 X8 1 (w + 1) 2 0) 12 w 11 x).2.1 k i p = X.2.1 k i p) ∧ ∀ k i p : Nat, (u1 (u1 X8 1 (w + 1) 2 0) 12 w 11 x).2.2.1 k i p = X.2.2.1 k i p := fun x hx => by
    have i : IV TT (u1 X8 1 (w + 1) 2 0) (u1 (u1 X8 1 (w + 1) 2 0) 12 w 11 x) := IV.w1 i10.oks rfl trivial hx
    refine ⟨i.oks, by rw [up_p (by decide)]; exact e12, up_s, fun k i p g1 g2 g3 g4 => ?_, fun k i p => ?_, fun k i p => ?_⟩
    · rw [up_e, if_neg (fun z => g4 ⟨z.1, z.2.1, Or.inl z.2.2⟩), up_e, if_neg (fun z => g3 ⟨z.1, z.2.1⟩)]
      exact f8 k i p g1 g2 (fun z => g4 ⟨z.1, z.2.1, Or.inr z.2.2⟩)
    · show X8.2.1 k i p = _
      rw [g8]; exact f3.2.1 k i p
    · show X8.2.2.1 k i p = _
      rw [g8]; exact f3.2.2 k i p
  refine ok_ite (fun z => ?_) (fun z => ?_)
  · rw [lq_e]
    obtain ⟨a, b, c, d⟩ := fin 98 ⟨by decide, by decide⟩
    exact ok_some ⟨a, b, Or.inl ⟨z, c⟩, d⟩
  · rw [lq_e]
    obtain ⟨a, b, c, d⟩ := fin 112 ⟨by decide, by decide⟩
    exact ok_some ⟨a, b, Or.inr ⟨z, c⟩, d⟩
theorem nbX_drop {X Y : SS} {w j : Nat} (hj : j < w) (h1 : ¬ X.1 12 j 12 = 0) (h2 : Y.1 12 j 12 = 0) (h : ∀ i, i ≠ j → Y.1 12 i 12 = X.1 12 i 12) : nbX Y w + 1 = nbX X w := by
  induction w with
  | zero => omega
  | succ w ih =>
    unfold nbX
    by_cases z : j = w
    · subst z
      rw [if_neg h1, if_pos h2, nbX_cong (X := X) (Y := Y) j (fun i hi => by rw [h i (by omega)])]
    · rw [h w (by omega)]
      have := ih (by omega)
      omega
/-- the bodies' part and the rest, but not the room -/
def IN1 (X : SS) : Prop := BOD X ∧ INV0 X
theorem db_in {X : SS} (hX : OKS X) (hi : IN1 X) {w : Nat} (hw : w < WK X) (hb : ¬ X.1 12 w 12 = 0) : ok (f_X6_dropBody X w) (fun r => OKS r.1 ∧ IN1 r.1 ∧ WK r.1 = WK X ∧ nbX r.1 (WK X) + 1 = nbX X (WK X) ∧ r.1.1 0 0 13 = X.1 0 0 13) := by
  refine ok_imp (db_eq hX w) (fun r q => ?_)
  obtain ⟨q1, q2, q3, q4, q5, q6⟩ := q
  have eW : WK r.1 = WK X := by
    unfold WK
    rw [q4 0 0 11 (by omega) (by omega) (by omega) (by omega)]
  have hst := (hi.1 w hw hb).2
  have h99 : ¬ X.1 12 w 11 = 99 := by
    rw [hst]
    rcases VD_2 X (w + 1) (X.1 12 w 8).toNatClampNeg with z | z <;> rw [z] <;> decide
  have hkt : KT X r.1 := ⟨fun t _ => ⟨q4 4 t 2 (by omega) (by omega) (by omega) (by omega), q4 4 t 3 (by omega) (by omega) (by omega) (by omega), funext fun a => q4 5 t a (by omega) (by omega) (by omega) (by omega), funext fun a => q4 6 t a (by omega) (by omega) (by omega) (by omega)⟩, fun k => q4 7 k 1 (by omega) (by omega) (by omega) (by omega)⟩
  have hkp : ∀ i : Nat, i ≠ w + 1 → KP X r.1 i := fun i h => ⟨q4 1 i 2 (by omega) (by omega) (by omega) (by omega), funext fun a => q4 2 i a (by omega) (by omega) (by omega) (by omega), funext fun a => q4 3 i a (by omega) (by omega) (by omega) (by omega)⟩
  have hW := WK_40 hX
  refine ⟨q1, ⟨fun v hv => ?_, ?_, ?_, ?_, ?_⟩, eW, ?_, q4 0 0 13 (by omega) (by omega) (by omega) (by omega)⟩
  · rw [eW] at hv
    by_cases y : v = w
    · rw [y]
      exact fun z => absurd q2 z
    · exact bd1_keep hX hkt (hkp (v + 1) (by omega)) (q5 12 v 10) (q4 12 v 8 (by omega) (by omega) (by omega) (by omega)) (q4 12 v 11 (by omega) (by omega) (by omega) (by omega)) (q4 12 v 12 (by omega) (by omega) (by omega) (by omega)) (hi.1 v hv)
  · exact vot_keep (fun v => ⟨q4 12 v 5 (by omega) (by omega) (by omega) (by omega), q4 12 v 6 (by omega) (by omega) (by omega) (by omega)⟩) (fun v m => ⟨q4 14 v m (by omega) (by omega) (by omega) (by omega), q4 15 v m (by omega) (by omega) (by omega) (by omega)⟩) hi.2.1
  · exact cpy_keep hX hi.2.2.2.1 (fun i h => hkp i (by omega)) (fun m => q4 9 m 2 (by omega) (by omega) (by omega) (by omega)) (fun m j => q4 11 m j (by omega) (by omega) (by omega) (by omega)) (fun m j => q6 10 m j) (by omega) (fun v _ => q5 12 v 10) hi.2.2.1
  · exact ref_keep (fun m j => q6 10 m j) hi.2.2.2.1
  · refine cha_keep (q4 0 0 11 (by omega) (by omega) (by omega) (by omega)) (q4 0 0 12 (by omega) (by omega) (by omega) (by omega)) (fun a => q4 24 0 a (by omega) (by omega) (by omega) (by omega)) (fun v => ?_) hi.2.2.2.2
    by_cases y : v = w
    · rw [y]
      refine ⟨fun z => absurd z ?_, fun z => absurd z h99⟩
      rcases q3 with ⟨-, q⟩ | ⟨-, q⟩ <;> rw [q] <;> decide
    · rw [q4 12 v 11 (by omega) (by omega) (by omega) (by omega)]
  · exact nbX_drop hw hb q2 (fun i h => q4 12 i 12 (by omega) (by omega) (by omega) (by omega))
theorem nd_L4 {X : SS} (hX : OKS X) {P : Int32 → Prop} : ∀ (n v : Nat) (r : Int32) (k : Int32 → Option Int32), 41 ≤ v + n → v ≤ WK X → ((r = -1 ∧ nbX X v = 0) ∨ ∃ w : Nat, w < v ∧ r = nI w ∧ ¬ X.1 12 w 12 = 0) → (∀ r : Int32, ((r = -1 ∧ nbX X (WK X) = 0) ∨ ∃ w : Nat, w < WK X ∧ r = nI w ∧ ¬ X.1 12 w 12 = 0) → ok (k r) P) → ok (f_X6_nextToDrop_L4 X n (nI v) r k) P := by
  have hW := WK_40 hX
  have eW := WK_n hX
  intro n
  induction n with
  | zero => intro v r k h1 h2; omega
  | succ n ih =>
    intro v r k h1 h2 hr hk
    rw [f_X6_nextToDrop_L4]
    show ok (if X.1 0 0 11 ≤ nI v then k r else _) P
    rw [← eW]
    refine ok_ite (fun c => ?_) (fun c => ?_)
    · rw [nI_leI (by omega) (by omega)] at c
      have e : v = WK X := by omega
      rw [e] at hr
      exact hk r hr
    · rw [nI_leI (by omega) (by omega)] at c
      have hv : vp_in (nI v) 40 := nI_in (by omega) (by decide)
      have e0 : nbX X (v + 1) = nbX X v + (if X.1 12 v 12 = 0 then 0 else 1) := rfl
      refine ok_gd hv (fun _ => ?_)
      rw [nI_clamp (by omega), nI_1]
      refine ok_ite (fun z => ?_) (fun z => ?_)
      · refine ih (v + 1) r k (by omega) (by omega) ?_ hk
        rcases hr with ⟨a, b⟩ | ⟨w, a, b, c⟩
        · exact Or.inl ⟨a, by rw [e0, if_pos z, b]⟩
        · exact Or.inr ⟨w, by omega, b, c⟩
      · have me : ok (f_X6_nextToDrop_L4 X n (nI (v + 1)) (nI v) k) P := ih (v + 1) (nI v) k (by omega) (by omega) (Or.inr ⟨v, by omega, rfl, z⟩) hk
        refine ok_ite (fun _ => me) (fun y => ?_)
        rcases hr with ⟨a, b⟩ | ⟨w, a, b, c⟩
        · exact absurd a y
        · rw [b]
          refine ok_gd hv (fun _ => ok_gd (nI_in (by omega) (by decide)) (fun _ => ?_))
          refine ok_b0 (s_X6_isDroppedBefore (A := TT) (B := X) X hX _ _) (fun v11 _ => ?_)
          exact ok_ite (fun _ => ih (v + 1) (nI w) k (by omega) (by omega) (Or.inr ⟨w, by omega, rfl, c⟩) hk) (fun _ => me)
theorem nd_eq {X : SS} (hX : OKS X) : ok (f_X6_nextToDrop X) (fun r => (r = -1 ∧ nbX X (WK X) = 0) ∨ ∃ w : Nat, w < WK X ∧ r = nI w ∧ ¬ X.1 12 w 12 = 0) := by
  unfold f_X6_nextToDrop
  exact nd_L4 hX 1000 0 (-1) _ (by omega) (Nat.zero_le _) (Or.inl ⟨rfl, rfl⟩) (fun r h => ok_some h)
theorem mk_L12 {R : Nat} : ∀ (n s : Nat) (b : Int32) (X : SS) , s + 1 ≤ n → s ≤ 40 → OKS X → IN1 X → (X.1 0 0 13).toNatClampNeg = R → nbX X (WK X) ≤ R + s → ok (f_X6_makeRoom_L12 n (nI s) b X (fun v5 X6 => some (X6, v5))) (fun r => OKS r.1 ∧ INV r.1 ∧ WK r.1 = WK X) := by
  intro n
  induction n with
  | zero => intro s b X h1; omega
  | succ n ih =>
    intro s b X h1 h2 hX hi hR hn
    rw [f_X6_makeRoom_L12]
    refine ok_ite (fun c => ?_) (fun c => ?_)
    · have : s = 0 := by
        have h : nI s ≤ nI 0 := c
        rw [nI_leI (by omega) (by omega)] at h
        omega
      have hrom : ROM X := by unfold ROM; omega
      exact ok_some ⟨hX, ⟨hrom, hi⟩, rfl⟩
    · obtain ⟨s', rfl⟩ : ∃ s', s = s' + 1 := by
        refine ⟨s - 1, ?_⟩
        rcases Nat.eq_zero_or_pos s with z | z
        · subst z
          exact absurd (show nI 0 ≤ (0 : Int32) by decide) c
        · omega
      rw [pk_m1]
      refine ok_b0 (nd_eq hX) (fun v11 q => ?_)
      rcases q with ⟨q1, q2⟩ | ⟨w, q1, q2, q3⟩
      · exact ok_ite (fun _ => ih s' b X (by omega) (by omega) hX hi hR (by omega)) (fun z => absurd q1 z)
      · have hW := WK_40 hX
        refine ok_ite (fun z => absurd (q2.symm.trans z) (nI_m1 (by omega))) (fun _ => ?_)
        rw [q2]
        refine ok_gd (nI_in (by omega) (by decide)) (fun _ => ?_)
        rw [nI_clamp (by omega)]
        refine ok_b1 (db_in hX hi q1 q3) (fun X16 v15 y => ?_)
        obtain ⟨y1, y2, y3, y4, y5⟩ := y
        simp only at y1 y2 y3 y4 y5
        exact ok_imp (ih s' _ X16 (by omega) (by omega) y1 y2 (by rw [y5]; exact hR) (by rw [y3]; omega)) (fun r z => ⟨z.1, z.2.1, z.2.2.trans y3⟩)
theorem mk_eq {X : SS} (hX : OKS X) (hi : IN1 X) : ok (f_X6_makeRoom X) (fun r => OKS r.1 ∧ INV r.1 ∧ WK r.1 = WK X) := by
  have r13 : (0 : Int32) ≤ X.1 0 0 13 ∧ X.1 0 0 13 ≤ (40 : Int32) := hX.at1 0 0 13
  have eR := cl_nI r13.1
  have hR : (X.1 0 0 13).toNatClampNeg ≤ 40 := cl_le r13.2 (by decide)
  have hn := nbX_le X (WK X)
  have hW := WK_40 hX
  unfold f_X6_makeRoom
  refine ok_b0e (bcX hX) ?_
  rw [lq_e, ← eR]
  by_cases z : nbX X (WK X) ≤ (X.1 0 0 13).toNatClampNeg
  · rw [f_X6_makeRoom_L12]
    refine ok_ite (fun _ => ok_some ⟨hX, ⟨z, hi⟩, rfl⟩) (fun y => absurd ?_ y)
    have : nI (nbX X (WK X)) ≤ nI (X.1 0 0 13).toNatClampNeg := (nI_leI (by omega) (by omega)).mpr z
    have h0 := nI_pos' (n := nbX X (WK X)) (by omega)
    grind
  · obtain ⟨s, hs⟩ : ∃ s, nbX X (WK X) = (X.1 0 0 13).toNatClampNeg + s := ⟨nbX X (WK X) - (X.1 0 0 13).toNatClampNeg, by omega⟩
    have e : nI (nbX X (WK X)) - nI (X.1 0 0 13).toNatClampNeg = nI s := by
      rw [hs, ← nI_add]
      grind
    rw [e]
    exact mk_L12 1000 s 0 X (by omega) (by omega) hX hi rfl (by omega)
