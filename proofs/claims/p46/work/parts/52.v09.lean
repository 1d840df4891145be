/-! vote -/
theorem sW_set {X Y : SS} {w m : Nat} (h : ∀ j, j ≠ m → Y.1 15 w j = X.1 15 w j) : ∀ n : Nat, sW Y w n = if m < n then sW X w n + (Y.1 15 w m - X.1 15 w m) else sW X w n
  | 0 => by rw [if_neg (by omega)]; rfl
  | n + 1 => by
    have ih := sW_set h n
    show sW Y w n + Y.1 15 w n = if m < n + 1 then sW X w n + X.1 15 w n + (Y.1 15 w m - X.1 15 w m) else sW X w n + X.1 15 w n
    rw [ih]
    by_cases z : m < n
    · rw [if_pos z, if_pos (by omega), h n (by omega)]
      grind
    · rw [if_neg z]
      by_cases y : m = n
      · subst y
        rw [if_pos (by omega)]
        grind
      · rw [if_neg (by omega), h n (by omega)]
theorem sV_set {X Y : SS} {w m : Nat} (h : ∀ j, j ≠ m → Y.1 15 w j = X.1 15 w j ∧ Y.1 14 w j = X.1 14 w j) : ∀ n : Nat, sV Y w n = if m < n then sV X w n + (Y.1 14 w m * Y.1 15 w m - X.1 14 w m * X.1 15 w m) else sV X w n
  | 0 => by rw [if_neg (by omega)]; rfl
  | n + 1 => by
    have ih := sV_set h n
    show sV Y w n + Y.1 14 w n * Y.1 15 w n = if m < n + 1 then sV X w n + X.1 14 w n * X.1 15 w n + (Y.1 14 w m * Y.1 15 w m - X.1 14 w m * X.1 15 w m) else sV X w n + X.1 14 w n * X.1 15 w n
    rw [ih]
    by_cases z : m < n
    · rw [if_pos z, if_pos (by omega), (h n (by omega)).1, (h n (by omega)).2]
      grind
    · rw [if_neg z]
      by_cases y : m = n
      · subst y
        rw [if_pos (by omega)]
        grind
      · rw [if_neg (by omega), (h n (by omega)).1, (h n (by omega)).2]
def TVR (X : SS) (w m : Nat) (p1 p2 : Int32) (Y : SS) : Prop := Y.1 12 w 5 = X.1 12 w 5 + (p2 - X.1 15 w m) ∧ Y.1 12 w 6 = X.1 12 w 6 + (p1 * p2 - X.1 14 w m * X.1 15 w m) ∧ Y.1 14 w m = p1 ∧ Y.1 15 w m = p2 ∧ (∀ k i p : Nat, ¬ (k = 12 ∧ i = w ∧ (p = 4 ∨ p = 5 ∨ p = 6)) → ¬ ((k = 14 ∨ k = 15) ∧ i = w ∧ p = m) → Y.1 k i p = X.1 k i p) ∧ Y.2 = X.2
theorem tv_J19 {X : SS} {w : Nat} {p0 p1 p2 v2 : Int32} (hv : vp_in p0 10) : ok (f_X5_takeVote_J19 X w p0 p2 p1 v2) (fun r => TVR X w p0.toNatClampNeg p1 p2 r.1) := by
  unfold f_X5_takeVote_J19
  refine ok_lq (fun X4 e4 => ok_gd hv (fun _ => ok_lq (fun X6 e6 => ok_gd hv (fun _ => ok_gd hv (fun _ => ok_lq (fun X9 e9 => ok_gd hv (fun _ => ok_lq (fun X11 e11 => ok_gd hv (fun _ => ok_lq (fun X13 e13 => ok_some ?_))))))))))
  have f4 : ∀ k i p : Nat, ¬ (k = 12 ∧ i = w ∧ p = 4) → X4.1 k i p = X.1 k i p := fun k i p h => by rw [e4, up_e, if_neg h]
  have f6 : ∀ k i p : Nat, ¬ (k = 12 ∧ i = w ∧ p = 5) → X6.1 k i p = X4.1 k i p := fun k i p h => by rw [e6, up_e, if_neg h]
  have f9 : ∀ k i p : Nat, ¬ (k = 12 ∧ i = w ∧ p = 6) → X9.1 k i p = X6.1 k i p := fun k i p h => by rw [e9, up_e, if_neg h]
  have f11 : ∀ k i p : Nat, ¬ (k = 14 ∧ i = w ∧ p = p0.toNatClampNeg) → X11.1 k i p = X9.1 k i p := fun k i p h => by rw [e11, up_e, if_neg h]
  have f13 : ∀ k i p : Nat, ¬ (k = 15 ∧ i = w ∧ p = p0.toNatClampNeg) → X13.1 k i p = X11.1 k i p := fun k i p h => by rw [e13, up_e, if_neg h]
  refine ⟨?_, ?_, ?_, ?_, fun k i p h1 h2 => ?_, ?_⟩
  · show X13.1 12 w 5 = _
    rw [f13 12 w 5 (by omega), f11 12 w 5 (by omega), f9 12 w 5 (by omega), e6, up_s, f4 12 w 5 (by omega), f4 15 w _ (by omega)]
  · show X13.1 12 w 6 = _
    rw [f13 12 w 6 (by omega), f11 12 w 6 (by omega), e9, up_s, f6 12 w 6 (by omega), f6 14 w _ (by omega), f6 15 w _ (by omega), f4 12 w 6 (by omega), f4 14 w _ (by omega), f4 15 w _ (by omega)]
  · show X13.1 14 w _ = _
    rw [f13 14 w _ (by omega), e11, up_s]
  · show X13.1 15 w _ = _
    rw [e13, up_s]
  · show X13.1 k i p = _
    rw [f13 k i p (by omega), f11 k i p (by omega), f9 k i p (by omega), f6 k i p (by omega), f4 k i p (by omega)]
  · show X13.2 = X.2
    rw [e13, e11, e9, e6, e4]
    rfl
theorem tv_eq {X : SS} {w : Nat} {p0 p1 p2 : Int32} (hv : vp_in p0 10) : ok (f_X5_takeVote X w p0 p1 p2) (fun r => TVR X w p0.toNatClampNeg p1 p2 r.1) := by
  unfold f_X5_takeVote
  exact ok_gd hv (fun _ => ok_ite (fun _ => tv_J19 hv) (fun _ => tv_J19 hv))
theorem tvr_inv {X Y : SS} (hX : OKS X) (hi : INV X) {w m : Nat} (hm : m < 10) {p1 p2 : Int32} (h1 : (1 : Int32) ≤ p1 ∧ p1 ≤ (5 : Int32)) (h2 : (1 : Int32) ≤ p2 ∧ p2 ≤ (6 : Int32)) (h : TVR X w m p1 p2 Y) : INV Y := by
  obtain ⟨t1, t2, t3, t4, t5, t6⟩ := h
  have hkt : KT X Y := ⟨fun t _ => ⟨t5 4 t 2 (by omega) (by omega), t5 4 t 3 (by omega) (by omega), funext fun a => t5 5 t a (by omega) (by omega), funext fun a => t5 6 t a (by omega) (by omega)⟩, fun k => t5 7 k 1 (by omega) (by omega)⟩
  have hkp : ∀ i : Nat, KP X Y i := fun i => ⟨t5 1 i 2 (by omega) (by omega), funext fun a => t5 2 i a (by omega) (by omega), funext fun a => t5 3 i a (by omega) (by omega)⟩
  have eW : WK Y = WK X := by
    unfold WK
    rw [t5 0 0 11 (by omega) (by omega)]
  obtain ⟨a1, a2, a3, a4, a5, a6⟩ := hi
  refine ⟨?_, fun v hv => ?_, ?_, ?_, ?_, ?_⟩
  · unfold ROM at a1 ⊢
    rw [eW, t5 0 0 13 (by omega) (by omega), nbX_cong (X := X) (Y := Y) _ (fun j _ => by rw [t5 12 j 12 (by omega) (by omega)])]
    exact a1
  · rw [eW] at hv
    exact bd1_keep hX hkt (hkp (v + 1)) (by rw [t6]) (t5 12 v 8 (by omega) (by omega)) (t5 12 v 11 (by omega) (by omega)) (t5 12 v 12 (by omega) (by omega)) (a2 v hv)
  · intro v hv
    obtain ⟨b1, b2, b3⟩ := a3 v hv
    by_cases y : v = w
    · subst y
      refine ⟨?_, ?_, fun j hj => ?_⟩
      · rw [t1, b1, sW_set (X := X) (Y := Y) (w := v) (m := m) (fun j hj => t5 15 v j (by omega) (by omega)) 10, if_pos hm, t4]
      · rw [t2, b2, sV_set (X := X) (Y := Y) (w := v) (m := m) (fun j hj => ⟨t5 15 v j (by omega) (by omega), t5 14 v j (by omega) (by omega)⟩) 10, if_pos hm, t3, t4]
      · by_cases z : j = m
        · rw [z, t3, t4]
          exact ⟨⟨by grind, h1.2⟩, by grind, h2.2⟩
        · rw [t5 14 v j (by omega) (by omega), t5 15 v j (by omega) (by omega)]
          exact b3 j hj
    · rw [t5 12 v 5 (by omega) (by omega), t5 12 v 6 (by omega) (by omega), sW_cong (X := X) (Y := Y) 10 (fun j _ => t5 15 v j (by omega) (by omega)), sV_cong (X := X) (Y := Y) 10 (fun j _ => ⟨t5 15 v j (by omega) (by omega), t5 14 v j (by omega) (by omega)⟩)]
      exact ⟨b1, b2, fun j hj => by rw [t5 14 v j (by omega) (by omega), t5 15 v j (by omega) (by omega)]; exact b3 j hj⟩
  · exact cpy_keep hX a5 (fun i _ => hkp i) (fun m => t5 9 m 2 (by omega) (by omega)) (fun m j => t5 11 m j (by omega) (by omega)) (fun m j => by rw [t6]) (by omega) (fun v _ => by rw [t6]) a4
  · exact ref_keep (fun m j => by rw [t6]) a5
  · exact cha_keep (t5 0 0 11 (by omega) (by omega)) (t5 0 0 12 (by omega) (by omega)) (fun a => t5 24 0 a (by omega) (by omega)) (fun v => by rw [t5 12 v 11 (by omega) (by omega)]) a6
theorem vote_inv {X : SS} (hX : OKS X) (hi : INV X) (p q s : Int32) : ok (f_X6_vote X p q s) (fun r => OKS r.1 ∧ INV r.1) := by
  have r10 : (0 : Int32) ≤ X.1 0 0 10 ∧ X.1 0 0 10 ≤ (10 : Int32) := hX.at1 0 0 10
  unfold f_X6_vote
  by_cases a : p < 0 ∨ X.1 0 0 10 ≤ p
  · rw [memberAt_no a, e0_inr]
    exact ok_some ⟨hX, hi⟩
  rw [memberAt_in hX a, e0_inl]
  by_cases c : q < 0 ∨ X.1 0 0 11 ≤ q
  · rw [workAt_no c, e0_inr]
    exact ok_some ⟨hX, hi⟩
  rw [workAt_in hX c, e0_inl]
  have hp : (0 : Int32) ≤ p ∧ p ≤ (9 : Int32) := ⟨by grind, by grind⟩
  have hv : vp_in p 10 := vp_of (by decide) hp.1 (show p < (10 : Int32) by grind)
  refine ok_ite (fun _ => ok_some ⟨hX, hi⟩) (fun s1 => ok_ite (fun s2 => ?_) (fun _ => ok_some ⟨hX, hi⟩))
  refine ok_b0 (w_X6_isOpenToVoteOf X hX p hp _) (fun v15 _ => ok_ite (fun _ => ok_some ⟨hX, hi⟩) (fun _ => ?_))
  refine ok_b1 (w_X6_beltOf X hX p hp) (fun X19 v18 y => ?_)
  obtain ⟨y1, y2, y3⟩ := y
  have h19 : OKS X19 := y1.oks
  have k19 : KI X X19 := ⟨fun k i p z => y1.same (by simp; intro h; subst h; simp [IC] at z), fun w => y1.same2 (by simp), fun m j => y1.same3 (by simp)⟩
  rw [lq_e]
  refine ok_b1 (ok_and (w_X5_takeVote X19 h19 _ p hp s ⟨by grind, s2⟩ (v18 + 1) ⟨by grind, by grind⟩) (tv_eq hv)) (fun X23 v22 g => ok_some ?_)
  exact ⟨g.1.1.oks, tvr_inv h19 (k19.inv hX hi) (cl_lt hv) ⟨by grind, s2⟩ ⟨by grind, by grind⟩ g.2⟩
