theorem w_X6_setTest (X : SS) (hX : OKS X) (p0 : Int32) (ip0 : (0 : Int32) ≤ p0 ∧ p0 ≤ (7 : Int32)) (i2 : Nat) : ok (f_X6_setTest X p0 i2) (fun r => IV (fun k i p => (k = 0 ∧ i = 0 ∧ p = 14) ∨ (k = 12 ∧ p = 11) ∨ (k = 16 ∧ i = 1 ∧ p = 4) ∨ (k = 16 ∧ i = 1 ∧ p = 5) ∨ (k = 16 ∧ i = 1 ∧ p = 6) ∨ (k = 16 ∧ i = 1 ∧ p = 7) ∨ (k = 16 ∧ i = 1 ∧ p = 8) ∨ (k = 17 ∧ i = 1) ∨ (k = 18 ∧ i = 1) ∨ (k = 19 ∧ i = 1) ∨ (k = 20 ∧ i = 1) ∨ (k = 4 ∧ p = 2) ∨ (k = 4 ∧ p = 3) ∨ (k = 4 ∧ p = 4) ∨ (k = 4 ∧ i = 40 ∧ p = 2) ∨ (k = 4 ∧ i = 40 ∧ p = 3) ∨ (k = 5) ∨ (k = 6)) X r.1 ∧ ((r.1.1 4 40 2) = (0 : Int32) ∧ (r.1.1 4 40 3) = (0 : Int32))) := s_X6_setTest (A := (fun k i p => (k = 0 ∧ i = 0 ∧ p = 14) ∨ (k = 12 ∧ p = 11) ∨ (k = 16 ∧ i = 1 ∧ p = 4) ∨ (k = 16 ∧ i = 1 ∧ p = 5) ∨ (k = 16 ∧ i = 1 ∧ p = 6) ∨ (k = 16 ∧ i = 1 ∧ p = 7) ∨ (k = 16 ∧ i = 1 ∧ p = 8) ∨ (k = 17 ∧ i = 1) ∨ (k = 18 ∧ i = 1) ∨ (k = 19 ∧ i = 1) ∨ (k = 20 ∧ i = 1) ∨ (k = 4 ∧ p = 2) ∨ (k = 4 ∧ p = 3) ∨ (k = 4 ∧ p = 4) ∨ (k = 4 ∧ i = 40 ∧ p = 2) ∨ (k = 4 ∧ i = 40 ∧ p = 3) ∨ (k = 5) ∨ (k = 6))) (B := X) X hX.self p0 ip0 i2 (by simp) (by simp) (by simp) (by simp) (by simp) (by simp) (by simp) (by simp) (by simp) (by simp) (by simp) (by simp) (by simp) (by simp) (by simp) (by simp) (by simp) (by simp)
theorem w_X7_puts (M : SS) (hM : OKS M) (p0 : Int32) (ip0 : (0 : Int32) ≤ p0 ∧ p0 ≤ (7 : Int32)) (p1 : Int32) (ip1 : (0 : Int32) ≤ p1 ∧ p1 ≤ (4 : Int32)) : ok (f_X7_puts M p0 p1) (fun r => IV (fun k i p => (k = 26 ∧ i = 0 ∧ p = 1) ∨ (k = 26 ∧ i = 0 ∧ p = 2) ∨ (k = 26 ∧ i = 0 ∧ p = 38) ∨ (k = 26 ∧ i = 0 ∧ p = 39) ∨ (k = 26 ∧ i = 0 ∧ p = 40) ∨ (k = 26 ∧ i = 0 ∧ p = 7) ∨ (k = 34 ∧ i = 0) ∨ (k = 35 ∧ i = 0) ∨ (k = 36 ∧ i = 0) ∨ (k = 37 ∧ i = 0) ∨ (k = 38 ∧ i = 0) ∨ (k = 42 ∧ i = 0) ∨ (k = 53 ∧ i = 0) ∨ (k = 54 ∧ i = 0)) M r.1 ∧ ((r.1.1 26 0 1) = (0 : Int32) ∧ (r.1.1 26 0 2) = (0 : Int32))) := s_X7_puts (A := (fun k i p => (k = 26 ∧ i = 0 ∧ p = 1) ∨ (k = 26 ∧ i = 0 ∧ p = 2) ∨ (k = 26 ∧ i = 0 ∧ p = 38) ∨ (k = 26 ∧ i = 0 ∧ p = 39) ∨ (k = 26 ∧ i = 0 ∧ p = 40) ∨ (k = 26 ∧ i = 0 ∧ p = 7) ∨ (k = 34 ∧ i = 0) ∨ (k = 35 ∧ i = 0) ∨ (k = 36 ∧ i = 0) ∨ (k = 37 ∧ i = 0) ∨ (k = 38 ∧ i = 0) ∨ (k = 42 ∧ i = 0) ∨ (k = 53 ∧ i = 0) ∨ (k = 54 ∧ i = 0))) (B := M) M hM.self p0 ip0 p1 ip1 (by simp) (by simp) (by simp) (by simp) (by simp) (by simp) (by simp) (by simp) (by simp) (by simp) (by simp) (by simp) (by simp) (by simp)
theorem v_L_step {X : SS} (hX : OKS X) (O : SS) (p1 : Int32) (p2 : Int32) : ok (f_L_step X O p1 p2) (fun r => OKS r.1) := ok_imp (s_L_step (A := TT) (B := X) X hX O p1 p2 trivial (fun _ => trivial) (fun _ => trivial)) (fun r w => w.1.oks)
theorem v_X7_step {M : SS} (hM : OKS M) (p0 : Int32) (p1 : Int32) : ok (f_X7_step M p0 p1) (fun r => OKS r.1) := ok_imp (s_X7_step (A := TT) (B := M) M hM p0 p1 trivial trivial (fun _ => trivial) (fun _ => trivial) trivial) (fun r w => w.1.oks)
theorem v_X6_wipe {X : SS} (hX : OKS X)  : ok (f_X6_wipe X) (fun r => OKS r.1) := ok_imp (s_X6_wipe (A := TT) (B := X) X hX trivial) (fun r w => w.1.oks)
theorem v_X7_wipe {M : SS} (hM : OKS M)  : ok (f_X7_wipe M) (fun r => OKS r.1) := ok_imp (s_X7_wipe (A := TT) (B := M) M hM trivial trivial trivial) (fun r w => w.1.oks)
theorem v_L_number {X : SS} (hX : OKS X) (O : SS) (p1 : Int32) (p2 : Int32) : ok (f_L_number X O p1 p2) (fun r => OKS r.1) := ok_imp (s_L_number (A := TT) (B := X) X hX O p1 p2 trivial trivial (fun _ => trivial) (fun _ => trivial)) (fun r w => w.1.oks)
theorem v_X7_number {M : SS} (hM : OKS M) (p0 : Int32) (p1 : Int32) : ok (f_X7_number M p0 p1) (fun r => OKS r.1) := ok_imp (s_X7_number (A := TT) (B := M) M hM p0 p1 trivial trivial trivial (fun _ => trivial) (fun _ => trivial)) (fun r w => w.1.oks)
theorem v_X6_clear {X : SS} (hX : OKS X)  : ok (f_X6_clear X) (fun r => OKS r.1) := ok_imp (s_X6_clear (A := TT) (B := X) X hX trivial trivial) (fun r w => w.1.oks)
theorem v_X7_clear {M : SS} (hM : OKS M)  : ok (f_X7_clear M) (fun r => OKS r.1) := ok_imp (s_X7_clear (A := TT) (B := M) M hM trivial trivial trivial) (fun r w => w.1.oks)
theorem v_L_kata {X : SS} (hX : OKS X) (O : SS) (p1 : Int32) : ok (f_L_kata X O p1) (fun r => OKS r.1) := ok_imp (s_L_kata (A := TT) (B := X) X hX O p1 trivial (fun _ => trivial)) (fun r w => w.1.oks)
theorem v_X7_kata {M : SS} (hM : OKS M) (p0 : Int32) : ok (f_X7_kata M p0) (fun r => OKS r.1) := ok_imp (s_X7_kata (A := TT) (B := M) M hM p0 trivial trivial (fun _ => trivial)) (fun r w => w.1.oks)
theorem v_L_test {X : SS} (hX : OKS X) (O : SS) (p1 : Int32) : ok (f_L_test X O p1) (fun r => OKS r.1) := ok_imp (s_L_test (A := TT) (B := X) X hX O p1 trivial (fun _ => trivial) trivial trivial trivial trivial trivial (fun _ => trivial) (fun _ => trivial) (fun _ => trivial) (fun _ => trivial) (fun _ => trivial) (fun _ => trivial) (fun _ => trivial) (fun _ _ => trivial) (fun _ _ => trivial) (fun _ => trivial)) (fun r w => w.1.oks)
theorem v_X7_test {M : SS} (hM : OKS M) (p0 : Int32) : ok (f_X7_test M p0) (fun r => OKS r.1) := ok_imp (s_X7_test (A := TT) (B := M) M hM p0 trivial trivial trivial trivial trivial trivial trivial trivial (fun _ => trivial) (fun _ => trivial) (fun _ => trivial) (fun _ => trivial) (fun _ => trivial) (fun _ => trivial) (fun _ => trivial) (fun _ => trivial)) (fun r w => w.1.oks)
theorem v_L_fix {X : SS} (hX : OKS X) (O : SS) (p1 : Int32) (p2 : Int32) : ok (f_L_fix X O p1 p2) (fun r => OKS r.1) := ok_imp (s_L_fix (A := TT) (B := X) X hX O p1 p2 trivial (fun _ => trivial) trivial trivial trivial trivial trivial (fun _ => trivial) (fun _ => trivial) (fun _ => trivial) (fun _ => trivial) (fun _ => trivial) (fun _ => trivial) (fun _ => trivial) (fun _ _ => trivial) (fun _ _ => trivial)) (fun r w => w.1.oks)
theorem v_X7_fix {M : SS} (hM : OKS M) (p0 : Int32) (p1 : Int32) : ok (f_X7_fix M p0 p1) (fun r => OKS r.1) := ok_imp (s_X7_fix (A := TT) (B := M) M hM p0 p1 trivial trivial trivial trivial trivial trivial trivial (fun _ => trivial) (fun _ => trivial) (fun _ => trivial) (fun _ => trivial) (fun _ => trivial) (fun _ => trivial) (fun _ => trivial) (fun _ => trivial)) (fun r w => w.1.oks)
theorem v_L_member {X : SS} (hX : OKS X) (O : SS) : ok (f_L_member X O) (fun r => OKS r.1) := ok_imp (s_L_member (A := TT) (B := X) X hX O trivial) (fun r w => w.1.oks)
theorem v_X7_member {M : SS} (hM : OKS M)  : ok (f_X7_member M) (fun r => OKS r.1) := ok_imp (s_X7_member (A := TT) (B := M) M hM trivial trivial (fun _ => trivial)) (fun r w => w.1.oks)
theorem v_X7_tests {M : SS} (hM : OKS M) (p0 : Int32) : ok (f_X7_tests M p0) (fun r => OKS r.1) := ok_imp (s_X7_tests (A := TT) (B := M) M hM p0 trivial) (fun r w => w.1.oks)
/-! class and reference side by side -/
def CXM (X M : SS) : Prop := X.1 1 0 2 = M.1 26 0 0 ∧ X.1 4 40 2 = M.1 26 0 1 ∧ X.1 4 40 3 = M.1 26 0 2 ∧ X.1 0 0 9 = M.1 26 0 3 ∧ X.1 0 0 10 = M.1 26 0 4 ∧ ∀ i : Nat, X.1 7 i 1 = M.1 33 0 i
def REL (X M : SS) : Prop := OKS X ∧ OKS M ∧ CXM X M
def RX (X X2 : SS) : Prop := OKS X2 ∧ X2.1 1 0 2 = X.1 1 0 2 ∧ X2.1 4 40 2 = X.1 4 40 2 ∧ X2.1 4 40 3 = X.1 4 40 3 ∧ X2.1 0 0 9 = X.1 0 0 9 ∧ X2.1 0 0 10 = X.1 0 0 10 ∧ ∀ i : Nat, X2.1 7 i 1 = X.1 7 i 1
def RM (M M2 : SS) : Prop := OKS M2 ∧ M2.1 26 0 0 = M.1 26 0 0 ∧ M2.1 26 0 1 = M.1 26 0 1 ∧ M2.1 26 0 2 = M.1 26 0 2 ∧ M2.1 26 0 3 = M.1 26 0 3 ∧ M2.1 26 0 4 = M.1 26 0 4 ∧ ∀ i : Nat, M2.1 33 0 i = M.1 33 0 i
theorem RX.refl {X : SS} (h : OKS X) : RX X X := ⟨h, rfl, rfl, rfl, rfl, rfl, fun _ => rfl⟩
theorem REL.step {X M X2 M2 : SS} (h : REL X M) (hx : RX X X2) (hm : RM M M2) : REL X2 M2 := by
  obtain ⟨_, _, c1, c2, c3, c4, c5, c6⟩ := h
  obtain ⟨x0, x1, x2, x3, x4, x5, x6⟩ := hx
  obtain ⟨m0, m1, m2, m3, m4, m5, m6⟩ := hm
  exact ⟨x0, m0, by rw [x1, m1, c1], by rw [x2, m2, c2], by rw [x3, m3, c3], by rw [x4, m4, c4], by rw [x5, m5, c5], fun i => by rw [x6, m6, c6]⟩
theorem ok_val {α : Type} {t : Option α} {P : α → Prop} {r : α} (h : ok t P) (e : t = some r) : P r := by
  obtain ⟨r2, e2, hp⟩ := h
  rw [e] at e2
  cases e2
  exact hp
theorem ok_v1 {α : Type} {t : Option (SS × α)} {X : SS} {v : α} (h : ok t (fun r => OKS r.1)) (e : t = some (X, v)) : OKS X := by
  have h2 := ok_val (P := fun r : SS × α => OKS r.1) h e
  exact h2
theorem b0_some {α β : Type} (v : α) (k : α → Option β) : b0 (some v) k = k v := rfl
theorem b1_some {α β : Type} (X : SS) (v : α) (k : SS → α → Option β) : b1 (some (X, v)) k = k X v := rfl
theorem e0_inl {α β : Type} (v : α) (k : α → Option β) (ke : String → Option β) : e0 (some (.inl v)) k ke = k v := rfl
theorem e0_inr {α β : Type} (E : String) (k : α → Option β) (ke : String → Option β) : e0 (some (.inr E)) k ke = ke E := rfl
theorem lq_e {α β : Type} (a : α) (k : α → Option β) : lq a k = k a := rfl
theorem ok_eq {α : Type} {t : Option α} {r : α} (e : t = some r) : ok t (fun q => q = r) := ⟨r, e, rfl⟩
theorem ok_b0e {α β : Type} {t : Option α} {k : α → Option β} {P : β → Prop} {v : α} (e : t = some v) (h : ok (k v) P) : ok (b0 t k) P := by
  subst e
  exact h
theorem ok_b1e {α β : Type} {t : Option (SS × α)} {k : SS → α → Option β} {P : β → Prop} {X : SS} {v : α} (e : t = some (X, v)) (h : ok (k X v) P) : ok (b1 t k) P := by
  subst e
  exact h
theorem ok_b2e {α β : Type} {t : Option (SS × SS × α)} {k : SS → SS → α → Option β} {P : β → Prop} {X Y : SS} {v : α} (e : t = some (X, Y, v)) (h : ok (k X Y v) P) : ok (b2 t k) P := by
  subst e
  exact h
theorem lg_self (x : Int64) : lg_cmp x x = 0 := by
  unfold lg_cmp
  simp
/-- both answered alike: the exception's number, or the value -/
def AG (O2 M2 : SS) (k b : Int32) : Prop := M2.1 26 0 9 = k ∧ (k = 0 → O2.2.1 56 0 0 = b.toInt64)
theorem rel_of {X M X2 M2 : SS} (hx : OKS X2) (hm : OKS M2) (h : CXM X2 M2) : REL X2 M2 := ⟨hx, hm, h⟩
theorem t_member {X M O : SS} (hR : REL X M) : ∃ X2 O2 k M2 b, f_L_member X O = some (X2, O2, k) ∧ f_X7_member M = some (M2, b) ∧ REL X2 M2 ∧ AG O2 M2 k b := by
  have hX := hR.1
  have hM := hR.2.1
  obtain ⟨c1, c2, c3, c4, c5, c6⟩ := hR.2.2
  have r1 : (0 : Int32) ≤ M.1 26 0 4 ∧ M.1 26 0 4 ≤ (10 : Int32) := hM.at1 26 0 4
  by_cases c : X.1 0 0 10 < (10 : Int32)
  · have d : ¬ M.1 26 0 4 = (10 : Int32) := by grind
    have hv : vp_in (M.1 26 0 4) 10 := vp_of (by decide) r1.1 (show M.1 26 0 4 < (10 : Int32) by grind)
    have e1 : f_L_member X O = some (u1 X 0 0 10 ((X.1 0 0 10) + 1), u2 O 56 0 0 (((u1 X 0 0 10 ((X.1 0 0 10) + 1)).1 0 0 10) - 1).toInt64, 0) := by
      unfold f_L_member f_X6_member
      rw [if_pos c]
      rfl
    have e2 : f_X7_member M = some (u1 (u1 (u1 M 51 0 (M.1 26 0 4).toNatClampNeg 10) 26 0 4 ((M.1 26 0 4) + 1)) 26 0 9 0, (M.1 26 0 4) + 1 - 1) := by
      unfold f_X7_member
      rw [if_neg d, gd_t hv]
      rfl
    refine ⟨_, _, _, _, _, e1, e2, ⟨ok_v1 (v_L_member hX O) e1, ok_v1 (v_X7_member hM) e2, ?_, ?_, ?_, ?_, ?_, fun i => ?_⟩, ?_, fun _ => ?_⟩
    · simp [up_e, c1]
    · simp [up_e, c2]
    · simp [up_e, c3]
    · simp [up_e, c4]
    · simp [up_e, c5]
    · simp [up_e, c6]
    · simp [up_e]
    · simp [u2, up3, up_e, c5]
  · have d : M.1 26 0 4 = (10 : Int32) := by grind
    have e1 : f_L_member X O = some (X, O, 1) := by
      unfold f_L_member f_X6_member
      rw [if_neg c]
      rfl
    have e2 : f_X7_member M = some (u1 M 26 0 9 1, 0) := by
      unfold f_X7_member
      rw [if_pos d]
      rfl
    refine ⟨_, _, _, _, _, e1, e2, ⟨hX, ok_v1 (v_X7_member hM) e2, ?_, ?_, ?_, ?_, ?_, fun i => ?_⟩, ?_, fun z => absurd z (by decide)⟩
    · simp [up_e, c1]
    · simp [up_e, c2]
    · simp [up_e, c3]
    · simp [up_e, c4]
    · simp [up_e, c5]
    · simp [up_e, c6]
    · simp [up_e]
theorem t_wipe {X M : SS} (hR : REL X M) : ∃ X2 v M2 b, f_X6_wipe X = some (X2, v) ∧ f_X7_wipe M = some (M2, b) ∧ REL X2 M2 ∧ v = b := by
  have hX := hR.1
  have hM := hR.2.1
  obtain ⟨c1, c2, c3, c4, c5, c6⟩ := hR.2.2
  have e1 : f_X6_wipe X = some (u1 X 1 0 2 0, X.1 1 0 2) := rfl
  have e2 : f_X7_wipe M = some (u1 (u1 (u1 M 26 0 0 0) 29 0 40 0) 26 0 9 0, M.1 26 0 0) := rfl
  refine ⟨_, _, _, _, e1, e2, ⟨ok_v1 (v_X6_wipe hX) e1, ok_v1 (v_X7_wipe hM) e2, ?_, ?_, ?_, ?_, ?_, fun i => ?_⟩, c1⟩
  · simp [up_e]
  · simp [up_e, c2]
  · simp [up_e, c3]
  · simp [up_e, c4]
  · simp [up_e, c5]
  · simp [up_e, c6]
theorem t_clear {X M : SS} (hR : REL X M) : ∃ X2 v M2 b, f_X6_clear X = some (X2, v) ∧ f_X7_clear M = some (M2, b) ∧ REL X2 M2 ∧ v = b := by
  have hX := hR.1
  have hM := hR.2.1
  obtain ⟨c1, c2, c3, c4, c5, c6⟩ := hR.2.2
  have e1 : f_X6_clear X = some (u1 (u1 X 4 40 2 0) 4 40 3 0, X.1 4 40 2 + X.1 4 40 3) := rfl
  have e2 : f_X7_clear M = some (u1 (u1 (u1 M 26 0 1 0) 26 0 2 0) 26 0 9 0, M.1 26 0 1 + M.1 26 0 2) := rfl
  refine ⟨_, _, _, _, e1, e2, ⟨ok_v1 (v_X6_clear hX) e1, ok_v1 (v_X7_clear hM) e2, ?_, ?_, ?_, ?_, ?_, fun i => ?_⟩, by rw [c2, c3]⟩
  · simp [up_e, c1]
  · simp [up_e]
  · simp [up_e]
  · simp [up_e, c4]
  · simp [up_e, c5]
  · simp [up_e, c6]
theorem oor_eq (p : Int32) : f_X6_isOutOfRange p = some (if p < (-999) ∨ 999 < p then 1 else 0) := by
  unfold f_X6_isOutOfRange
  by_cases a : p < (-999)
  · rw [if_pos a, if_pos (Or.inl a)]
  · rw [if_neg a]
    by_cases b : p ≤ 999
    · rw [if_pos b, if_neg (fun h => h.elim a (fun z => by grind))]
    · rw [if_neg b, if_pos (Or.inr (by grind))]
theorem in_eq (p a b : Int32) : f_X7_in p a b = some (if p < a ∨ b < p then 0 else 1) := by
  unfold f_X7_in
  by_cases h : p < a
  · rw [if_pos h, if_pos (Or.inl h)]
  · rw [if_neg h]
    by_cases h2 : b < p
    · rw [if_pos h2, if_pos (Or.inr h2)]
    · rw [if_neg h2, if_neg (fun z => z.elim h h2)]
/-- both fail alike -/
theorem t_fail {X M O : SS} (hR : REL X M) (k : Int32) (hk : ¬ k = 0) : REL X (u1 M 26 0 9 k) → (AG O (u1 M 26 0 9 k) k 0) := fun _ => ⟨up_s, fun z => absurd z hk⟩
theorem rel_fail {X M : SS} (hR : REL X M) (k : Int32) (hk : (0 : Int32) ≤ k ∧ k ≤ (3 : Int32)) : REL X (u1 M 26 0 9 k) := by
  obtain ⟨hX, hM, c1, c2, c3, c4, c5, c6⟩ := hR
  have h8 : IV TT M (u1 M 26 0 9 k) := IV.w1 hM rfl trivial hk
  have hc : CXM X (u1 M 26 0 9 k) := ⟨by simp [up_e, c1], by simp [up_e, c2], by simp [up_e, c3], by simp [up_e, c4], by simp [up_e, c5], fun i => by simp [up_e, c6]⟩
  exact ⟨hX, h8.oks, hc⟩
theorem t_kata {X M O : SS} (hR : REL X M) (p : Int32) : ∃ X2 O2 k M2 b, f_L_kata X O p = some (X2, O2, k) ∧ f_X7_kata M p = some (M2, b) ∧ REL X2 M2 ∧ AG O2 M2 k b := by
  have hX := hR.1
  have hM := hR.2.1
  obtain ⟨c1, c2, c3, c4, c5, c6⟩ := hR.2.2
  have r1 : (0 : Int32) ≤ M.1 26 0 3 ∧ M.1 26 0 3 ≤ (8 : Int32) := hM.at1 26 0 3
  by_cases a : p < 1 ∨ 5 < p
  · have e1 : f_L_kata X O p = some (X, O, 1) := by
      unfold f_L_kata f_X6_kata
      by_cases z : p < 1
      · rw [if_pos z]; rfl
      · rw [if_neg z, if_neg (by grind)]; rfl
    have e2 : f_X7_kata M p = some (u1 M 26 0 9 1, 0) := by
      unfold f_X7_kata
      rw [in_eq, if_pos a]
      rfl
    exact ⟨_, _, _, _, _, e1, e2, rel_fail hR 1 (by decide), up_s, fun z => absurd z (by decide)⟩
  · by_cases c : X.1 0 0 9 < (8 : Int32)
    · have d : ¬ M.1 26 0 3 = (8 : Int32) := by grind
      have hv : vp_in (M.1 26 0 3) 8 := vp_of (by decide) r1.1 (show M.1 26 0 3 < (8 : Int32) by grind)
      have hv2 : vp_in (X.1 0 0 9) 8 := by rw [c4]; exact hv
      have e1 : f_L_kata X O p = some (u1 (u1 X 7 (X.1 0 0 9).toNatClampNeg 2 p) 0 0 9 ((u1 X 7 (X.1 0 0 9).toNatClampNeg 2 p).1 0 0 9 + 1), u2 O 56 0 0 (((u1 (u1 X 7 (X.1 0 0 9).toNatClampNeg 2 p) 0 0 9 ((u1 X 7 (X.1 0 0 9).toNatClampNeg 2 p).1 0 0 9 + 1)).1 0 0 9) - 1).toInt64, 0) := by
        unfold f_L_kata f_X6_kata
        rw [if_neg (fun z => a (Or.inl z)), if_pos (by grind), if_pos c, gd_t hv2]
        rfl
      have e2 : f_X7_kata M p = some (u1 (u1 (u1 M 32 0 (M.1 26 0 3).toNatClampNeg p) 26 0 3 ((u1 M 32 0 (M.1 26 0 3).toNatClampNeg p).1 26 0 3 + 1)) 26 0 9 0, (u1 (u1 M 32 0 (M.1 26 0 3).toNatClampNeg p) 26 0 3 ((u1 M 32 0 (M.1 26 0 3).toNatClampNeg p).1 26 0 3 + 1)).1 26 0 3 - 1) := by
        unfold f_X7_kata
        rw [in_eq, if_neg a]
        rw [b0_some, if_neg (by decide), if_neg d, gd_t hv]
        rfl
      refine ⟨_, _, _, _, _, e1, e2, ⟨ok_v1 (v_L_kata hX O p) e1, ok_v1 (v_X7_kata hM p) e2, ?_, ?_, ?_, ?_, ?_, fun i => ?_⟩, up_s, fun _ => ?_⟩
      · simp [up_e, c1]
      · simp [up_e, c2]
      · simp [up_e, c3]
      · simp [up_e, c4]
      · simp [up_e, c5]
      · simp [up_e, c6]
      · simp [u2, up3, up_e, c4]
    · have d : M.1 26 0 3 = (8 : Int32) := by grind
      have e1 : f_L_kata X O p = some (X, O, 2) := by
        unfold f_L_kata f_X6_kata
        rw [if_neg (fun z => a (Or.inl z)), if_pos (by grind), if_neg c]
        rfl
      have e2 : f_X7_kata M p = some (u1 M 26 0 9 2, 0) := by
        unfold f_X7_kata
        rw [in_eq, if_neg a]
        rw [b0_some, if_neg (by decide), if_pos d]
        rfl
      exact ⟨_, _, _, _, _, e1, e2, rel_fail hR 2 (by decide), up_s, fun z => absurd z (by decide)⟩
theorem t_number {X M O : SS} (hR : REL X M) (p q : Int32) : ∃ X2 O2 k M2 b, f_L_number X O p q = some (X2, O2, k) ∧ f_X7_number M p q = some (M2, b) ∧ REL X2 M2 ∧ AG O2 M2 k b := by
  have hX := hR.1
  have hM := hR.2.1
  obtain ⟨c1, c2, c3, c4, c5, c6⟩ := hR.2.2
  have r1 : (0 : Int32) ≤ M.1 26 0 1 ∧ M.1 26 0 1 ≤ (4 : Int32) := hM.at1 26 0 1
  have r2 : (0 : Int32) ≤ M.1 26 0 2 ∧ M.1 26 0 2 ≤ (6 : Int32) := hM.at1 26 0 2
  by_cases a : p < (-999) ∨ 999 < p
  · have e1 : f_L_number X O p q = some (X, O, 1) := by
      unfold f_L_number f_X6_number
      rw [oor_eq, if_pos a]
      rfl
    have e2 : f_X7_number M p q = some (u1 M 26 0 9 1, 0) := by
      unfold f_X7_number
      rw [in_eq, if_pos a]
      rfl
    exact ⟨_, _, _, _, _, e1, e2, rel_fail hR 1 (by decide), up_s, fun z => absurd z (by decide)⟩
  · by_cases hq : q = 0
    · by_cases c : X.1 4 40 2 < (4 : Int32)
      · have d : ¬ M.1 26 0 1 = (4 : Int32) := by grind
        have d2 : ¬ (4 : Int32) ≤ X.1 4 40 2 := by grind
        have hv : vp_in (M.1 26 0 1) 4 := vp_of (by decide) r1.1 (show M.1 26 0 1 < (4 : Int32) by grind)
        have hv2 : vp_in (X.1 4 40 2) 4 := by rw [c2]; exact hv
        have e1 : f_L_number X O p q = some (u1 (u1 X 5 40 (X.1 4 40 2).toNatClampNeg p) 4 40 2 ((u1 X 5 40 (X.1 4 40 2).toNatClampNeg p).1 4 40 2 + 1), u2 O 56 0 0 ((u1 (u1 X 5 40 (X.1 4 40 2).toNatClampNeg p) 4 40 2 ((u1 X 5 40 (X.1 4 40 2).toNatClampNeg p).1 4 40 2 + 1)).1 4 40 2).toInt64, 0) := by
          unfold f_L_number f_X6_number
          rw [oor_eq, if_neg a]
          rw [b0_some, if_pos rfl, if_pos hq, if_pos c]
          unfold f_X6_number_J57
          rw [if_pos hq]
          unfold f_X4_addInput
          rw [if_neg d2, gd_t hv2]
          rfl
        have e2 : f_X7_number M p q = some (u1 (u1 (u1 M 30 0 (M.1 26 0 1).toNatClampNeg p) 26 0 1 ((u1 M 30 0 (M.1 26 0 1).toNatClampNeg p).1 26 0 1 + 1)) 26 0 9 0, (u1 (u1 M 30 0 (M.1 26 0 1).toNatClampNeg p) 26 0 1 ((u1 M 30 0 (M.1 26 0 1).toNatClampNeg p).1 26 0 1 + 1)).1 26 0 1) := by
          unfold f_X7_number
          rw [in_eq, if_neg a]
          rw [b0_some, if_neg (by decide), if_pos hq, if_neg d]
          unfold f_X7_number_J49
          rw [if_pos hq, gd_t hv]
          rfl
        refine ⟨_, _, _, _, _, e1, e2, ⟨ok_v1 (v_L_number hX O p q) e1, ok_v1 (v_X7_number hM p q) e2, ?_, ?_, ?_, ?_, ?_, fun i => ?_⟩, up_s, fun _ => ?_⟩
        · simp [up_e, c1]
        · simp [up_e, c2]
        · simp [up_e, c3]
        · simp [up_e, c4]
        · simp [up_e, c5]
        · simp [up_e, c6]
        · simp [u2, up3, up_e, c2]
      · have d : M.1 26 0 1 = (4 : Int32) := by grind
        have e1 : f_L_number X O p q = some (X, O, 2) := by
          unfold f_L_number f_X6_number
          rw [oor_eq, if_neg a]
          rw [b0_some, if_pos rfl, if_pos hq, if_neg c]
          rfl
        have e2 : f_X7_number M p q = some (u1 M 26 0 9 2, 0) := by
          unfold f_X7_number
          rw [in_eq, if_neg a]
          rw [b0_some, if_neg (by decide), if_pos hq, if_pos d]
          rfl
        exact ⟨_, _, _, _, _, e1, e2, rel_fail hR 2 (by decide), up_s, fun z => absurd z (by decide)⟩
    · by_cases c : X.1 4 40 3 < (6 : Int32)
      · have d : ¬ M.1 26 0 2 = (6 : Int32) := by grind
        have d2 : ¬ (6 : Int32) ≤ X.1 4 40 3 := by grind
        have hv : vp_in (M.1 26 0 2) 6 := vp_of (by decide) r2.1 (show M.1 26 0 2 < (6 : Int32) by grind)
        have hv2 : vp_in (X.1 4 40 3) 6 := by rw [c3]; exact hv
        have e1 : f_L_number X O p q = some (u1 (u1 X 6 40 (X.1 4 40 3).toNatClampNeg p) 4 40 3 ((u1 X 6 40 (X.1 4 40 3).toNatClampNeg p).1 4 40 3 + 1), u2 O 56 0 0 ((u1 (u1 X 6 40 (X.1 4 40 3).toNatClampNeg p) 4 40 3 ((u1 X 6 40 (X.1 4 40 3).toNatClampNeg p).1 4 40 3 + 1)).1 4 40 3).toInt64, 0) := by
          unfold f_L_number f_X6_number
          rw [oor_eq, if_neg a]
          rw [b0_some, if_pos rfl, if_neg hq, if_pos c]
          unfold f_X6_number_J57
          rw [if_neg hq]
          unfold f_X4_addExpected
          rw [if_neg d2, gd_t hv2]
          rfl
        have e2 : f_X7_number M p q = some (u1 (u1 (u1 M 31 0 (M.1 26 0 2).toNatClampNeg p) 26 0 2 ((u1 M 31 0 (M.1 26 0 2).toNatClampNeg p).1 26 0 2 + 1)) 26 0 9 0, (u1 (u1 M 31 0 (M.1 26 0 2).toNatClampNeg p) 26 0 2 ((u1 M 31 0 (M.1 26 0 2).toNatClampNeg p).1 26 0 2 + 1)).1 26 0 2) := by
          unfold f_X7_number
          rw [in_eq, if_neg a]
          rw [b0_some, if_neg (by decide), if_neg hq, if_neg d]
          unfold f_X7_number_J49
          rw [if_neg hq, gd_t hv]
          rfl
        refine ⟨_, _, _, _, _, e1, e2, ⟨ok_v1 (v_L_number hX O p q) e1, ok_v1 (v_X7_number hM p q) e2, ?_, ?_, ?_, ?_, ?_, fun i => ?_⟩, up_s, fun _ => ?_⟩
        · simp [up_e, c1]
        · simp [up_e, c2]
        · simp [up_e, c3]
        · simp [up_e, c4]
        · simp [up_e, c5]
        · simp [up_e, c6]
        · simp [u2, up3, up_e, c3]
      · have d : M.1 26 0 2 = (6 : Int32) := by grind
        have e1 : f_L_number X O p q = some (X, O, 2) := by
          unfold f_L_number f_X6_number
          rw [oor_eq, if_neg a]
          rw [b0_some, if_pos rfl, if_neg hq, if_neg c]
          rfl
        have e2 : f_X7_number M p q = some (u1 M 26 0 9 2, 0) := by
          unfold f_X7_number
          rw [in_eq, if_neg a]
          rw [b0_some, if_neg (by decide), if_neg hq, if_pos d]
          rfl
        exact ⟨_, _, _, _, _, e1, e2, rel_fail hR 2 (by decide), up_s, fun z => absurd z (by decide)⟩
theorem oneOf_eq (p a b c d : Int32) : f_X7_isOneOf p a b c d = some (oneC p a b c d) := by
  unfold f_X7_isOneOf oneC
  by_cases h1 : p = a
  · rw [if_pos h1, if_pos h1]
  · rw [if_neg h1, if_neg h1]
    by_cases h2 : p = b
    · rw [if_pos h2, if_pos h2]
    · rw [if_neg h2, if_neg h2]
      by_cases h3 : p = c
      · rw [if_pos h3, if_pos h3]
      · rw [if_neg h3, if_neg h3]
        by_cases h4 : p = d
        · rw [if_pos h4, if_pos h4]
        · rw [if_neg h4, if_neg h4]
theorem isLetter_eq (p : Int32) : f_X7_isLetter p = some (letC p) := by
  unfold f_X7_isLetter letC
  rw [oneOf_eq, oneOf_eq, oneOf_eq]
  show (if oneC p 110 105 43 45 = 0 then (if oneC p 42 37 100 115 = 0 then (if oneC p 112 111 91 93 = 0 then some 0 else some 1) else some 1) else some 1) = _
  by_cases h1 : oneC p 110 105 43 45 = 0 <;> by_cases h2 : oneC p 42 37 100 115 = 0 <;> by_cases h3 : oneC p 112 111 91 93 = 0 <;> simp [h1, h2, h3]
theorem t_step {X M O : SS} (hR : REL X M) (p q : Int32) : ∃ X2 O2 k M2 b, f_L_step X O p q = some (X2, O2, k) ∧ f_X7_step M p q = some (M2, b) ∧ REL X2 M2 ∧ AG O2 M2 k b := by
  have hX := hR.1
  have hM := hR.2.1
  obtain ⟨c1, c2, c3, c4, c5, c6⟩ := hR.2.2
  have r1 : (0 : Int32) ≤ M.1 26 0 0 ∧ M.1 26 0 0 ≤ (24 : Int32) := hM.at1 26 0 0
  by_cases a : letC p = 0
  · have a2 : ¬ 0 ≤ ixL p := fun z => (ix_let p).mp z a
    have e1 : f_L_step X O p q = some (X, O, 1) := by
      unfold f_L_step f_X6_step
      rw [if_neg a2]
      rfl
    have e2 : f_X7_step M p q = some (u1 M 26 0 9 1, 0) := by
      unfold f_X7_step
      rw [isLetter_eq, a]
      rfl
    exact ⟨_, _, _, _, _, e1, e2, rel_fail hR 1 (by decide), up_s, fun z => absurd z (by decide)⟩
  · have a2 : 0 ≤ ixL p := (ix_let p).mpr a
    by_cases g : p = 110 ∧ (q < (-999) ∨ 999 < q)
    · obtain ⟨g1, g2⟩ := g
      have e1 : f_L_step X O p q = some (X, O, 1) := by
        unfold f_L_step f_X6_step
        rw [if_pos a2, if_pos g1]
        unfold f_X6_step_J30
        rw [if_neg (by decide), oor_eq, if_pos g2]
        rfl
      have e2 : f_X7_step M p q = some (u1 M 26 0 9 1, 0) := by
        unfold f_X7_step
        rw [isLetter_eq]
        rw [b0_some, if_neg a, if_pos g1, in_eq, if_pos g2]
        rfl
      exact ⟨_, _, _, _, _, e1, e2, rel_fail hR 1 (by decide), up_s, fun z => absurd z (by decide)⟩
    · have e1 : ∃ w v, (w = 0 → v = (0 : Int32)) ∧ (¬ w = 0 → v = q) ∧ f_X6_step X p q = f_X6_step_J52 X w p q ∧ (w = 0 ↔ ¬ p = 110) ∧ (w = 0 ∨ w = (1 : Int32)) := by
        by_cases g1 : p = 110
        · refine ⟨1, q, fun z => absurd z (by decide), fun _ => rfl, ?_, ⟨fun z => absurd z (by decide), fun z => absurd g1 z⟩, Or.inr rfl⟩
          unfold f_X6_step
          rw [if_pos a2, if_pos g1]
          unfold f_X6_step_J30
          rw [if_neg (by decide), oor_eq, if_neg (fun z => g ⟨g1, z⟩)]
          rfl
        · refine ⟨0, 0, fun _ => rfl, fun z => absurd rfl z, ?_, ⟨fun _ => g1, fun _ => rfl⟩, Or.inl rfl⟩
          unfold f_X6_step
          rw [if_pos a2, if_neg g1]
          unfold f_X6_step_J30
          rw [if_pos rfl]
      obtain ⟨w, v, hw0, hw1, hx, hw, hw2⟩ := e1
      have hm : f_X7_step M p q = f_X7_step_J32 M p q := by
        unfold f_X7_step
        rw [isLetter_eq]
        rw [b0_some, if_neg a]
        by_cases g1 : p = 110
        · rw [if_pos g1, in_eq, if_neg (fun z => g ⟨g1, z⟩)]
          rfl
        · rw [if_neg g1]
      by_cases c : X.1 1 0 2 < (24 : Int32)
      · have d : ¬ M.1 26 0 0 = (24 : Int32) := by grind
        have d2 : ¬ (24 : Int32) ≤ X.1 1 0 2 := by grind
        have hv2 : vp_in (X.1 1 0 2) 24 := vp_of (by decide) (by grind) (show X.1 1 0 2 < (24 : Int32) by grind)
        have hv : vp_in ((960 : Int32) + M.1 26 0 0) 984 := vp_of (by decide) (by grind) (show (960 : Int32) + M.1 26 0 0 < (984 : Int32) by grind)
        have e1 : f_L_step X O p q = some (u1 (u1 (u1 X 2 0 (X.1 1 0 2).toNatClampNeg (vp_nar .char p)) 3 0 (X.1 1 0 2).toNatClampNeg v) 1 0 2 (X.1 1 0 2 + 1), u2 O 56 0 0 (X.1 1 0 2 + 1).toInt64, 0) := by
          unfold f_L_step
          rw [hx]
          unfold f_X6_step_J52
          rw [if_pos c]
          have hap : ∀ y, f_X3_append X 0 p y = some (u1 (u1 (u1 X 2 0 (X.1 1 0 2).toNatClampNeg (vp_nar .char p)) 3 0 (X.1 1 0 2).toNatClampNeg y) 1 0 2 (X.1 1 0 2 + 1), ()) := by
            intro y
            unfold f_X3_append
            rw [if_neg d2, gd_t hv2]
            show gd (vp_in (X.1 1 0 2) 24) _ = _
            rw [gd_t hv2]
            rfl
          by_cases hz : w = 0
          · rw [if_pos hz, hap, hw0 hz]
            rfl
          · rw [if_neg hz, hap, hw1 hz]
            rfl
        have e2 : f_X7_step M p q = some (u1 (u1 (u1 (u1 (u1 M 27 0 ((960 : Int32) + M.1 26 0 0).toNatClampNeg (vp_nar .char p)) 28 0 ((960 : Int32) + M.1 26 0 0).toNatClampNeg v) 26 0 0 (M.1 26 0 0 + 1)) 29 0 40 (M.1 26 0 0 + 1)) 26 0 9 0, M.1 26 0 0 + 1) := by
          rw [hm]
          unfold f_X7_step_J32
          rw [if_neg d, gd_t hv]
          have hj : ∀ y, f_X7_step_J84 (u1 M 27 0 ((960 : Int32) + M.1 26 0 0).toNatClampNeg (vp_nar .char p)) y = some (u1 (u1 (u1 (u1 (u1 M 27 0 ((960 : Int32) + M.1 26 0 0).toNatClampNeg (vp_nar .char p)) 28 0 ((960 : Int32) + M.1 26 0 0).toNatClampNeg y) 26 0 0 (M.1 26 0 0 + 1)) 29 0 40 (M.1 26 0 0 + 1)) 26 0 9 0, M.1 26 0 0 + 1) := by
            intro y
            unfold f_X7_step_J84
            show gd (vp_in ((960 : Int32) + M.1 26 0 0) 984) _ = _
            rw [gd_t hv]
            rfl
          show (if p = 110 then _ else _) = _
          by_cases g1 : p = 110
          · rw [if_pos g1, hj, hw1 (fun z => (hw.mp z) g1)]
          · rw [if_neg g1, hj, hw0 (hw.mpr g1)]
        refine ⟨_, _, _, _, _, e1, e2, ⟨ok_v1 (v_L_step hX O p q) e1, ok_v1 (v_X7_step hM p q) e2, ?_, ?_, ?_, ?_, ?_, fun i => ?_⟩, up_s, fun _ => ?_⟩
        · simp [up_e, c1]
        · simp [up_e, c2]
        · simp [up_e, c3]
        · simp [up_e, c4]
        · simp [up_e, c5]
        · simp [up_e, c6]
        · simp [u2, up3, up_e, c1]
      · have d : M.1 26 0 0 = (24 : Int32) := by grind
        have e1 : f_L_step X O p q = some (X, O, 2) := by
          unfold f_L_step
          rw [hx]
          unfold f_X6_step_J52
          rw [if_neg c]
          rfl
        have e2 : f_X7_step M p q = some (u1 M 26 0 9 2, 0) := by
          rw [hm]
          unfold f_X7_step_J32
          rw [if_pos d]
          rfl
        exact ⟨_, _, _, _, _, e1, e2, rel_fail hR 2 (by decide), up_s, fun z => absurd z (by decide)⟩
theorem kataAt_no {X : SS} {p : Int32} (h : p < 0 ∨ X.1 0 0 9 ≤ p) : f_X6_kataAt X p = some (.inr "java/lang/IndexOutOfBoundsException") := by
  unfold f_X6_kataAt
  by_cases z : p < 0
  · rw [if_pos z]
  · rw [if_neg z, if_neg (by grind)]
theorem kataAt_in {X : SS} (hX : OKS X) {p : Int32} (h : ¬ (p < 0 ∨ X.1 0 0 9 ≤ p)) : f_X6_kataAt X p = some (.inl p.toNatClampNeg) := by
  have r1 : (0 : Int32) ≤ X.1 0 0 9 ∧ X.1 0 0 9 ≤ (8 : Int32) := hX.at1 0 0 9
  unfold f_X6_kataAt
  rw [if_neg (fun z => h (Or.inl z)), if_pos (by grind), gd_t (vp_of (by decide) (by grind) (show p < (8 : Int32) by grind))]
theorem isKata_eq {M : SS} (hM : OKS M) (p : Int32) : f_X7_isKata M p = some (if p < 0 ∨ M.1 26 0 3 ≤ p then 0 else 1) := by
  have r1 : (0 : Int32) ≤ M.1 26 0 3 ∧ M.1 26 0 3 ≤ (8 : Int32) := hM.at1 26 0 3
  unfold f_X7_isKata
  rw [in_eq]
  by_cases h : p < 0 ∨ M.1 26 0 3 ≤ p
  · rw [if_pos h, if_pos (show p < 0 ∨ M.1 26 0 3 - 1 < p by grind)]
    rw [b0_some, gd_t (okz_of (by decide) (by decide))]
  · rw [if_neg h, if_neg (show ¬ (p < 0 ∨ M.1 26 0 3 - 1 < p) by grind)]
    rw [b0_some, gd_t (okz_of (by decide) (by decide))]
theorem t_tests {X M O : SS} (hR : REL X M) (p : Int32) : ∃ O2 k M2 b, f_L_tests X O p = some (O2, k) ∧ f_X7_tests M p = some (M2, b) ∧ REL X M2 ∧ AG O2 M2 k b := by
  have hX := hR.1
  have hM := hR.2.1
  obtain ⟨c1, c2, c3, c4, c5, c6⟩ := hR.2.2
  have r1 : (0 : Int32) ≤ M.1 26 0 3 ∧ M.1 26 0 3 ≤ (8 : Int32) := hM.at1 26 0 3
  by_cases a : p < 0 ∨ X.1 0 0 9 ≤ p
  · have e1 : f_L_tests X O p = some (O, 1) := by
      unfold f_L_tests f_X6_tests
      rw [kataAt_no a]
      rfl
    have e2 : f_X7_tests M p = some (u1 M 26 0 9 1, 0) := by
      unfold f_X7_tests
      rw [isKata_eq hM, if_pos (by rw [← c4]; exact a)]
      rfl
    exact ⟨_, _, _, _, e1, e2, rel_fail hR 1 (by decide), up_s, fun z => absurd z (by decide)⟩
  · have hv : vp_in p 8 := vp_of (by decide) (by grind) (show p < (8 : Int32) by grind)
    have e1 : f_L_tests X O p = some (u2 O 56 0 0 (X.1 7 p.toNatClampNeg 1).toInt64, 0) := by
      unfold f_L_tests f_X6_tests
      rw [kataAt_in hX a]
      rfl
    have e2 : f_X7_tests M p = some (u1 M 26 0 9 0, M.1 33 0 p.toNatClampNeg) := by
      unfold f_X7_tests
      rw [isKata_eq hM, if_neg (by rw [← c4]; exact a)]
      rw [b0_some, if_neg (by decide), gd_t hv]
      rfl
    refine ⟨_, _, _, _, e1, e2, rel_fail hR 0 (by decide), up_s, fun _ => ?_⟩
    simp [u2, up3, c6]
theorem t_test {X M O : SS} (hR : REL X M) (p : Int32) : ∃ X2 O2 k M2 b, f_L_test X O p = some (X2, O2, k) ∧ f_X7_test M p = some (M2, b) ∧ REL X2 M2 ∧ M2.1 26 0 9 = k := by
  have hX := hR.1
  have hM := hR.2.1
  obtain ⟨c1, c2, c3, c4, c5, c6⟩ := hR.2.2
  have r1 : (0 : Int32) ≤ M.1 26 0 3 ∧ M.1 26 0 3 ≤ (8 : Int32) := hM.at1 26 0 3
  by_cases a : p < 0 ∨ X.1 0 0 9 ≤ p
  · have e1 : f_L_test X O p = some (X, O, 1) := by
      unfold f_L_test f_X6_test
      rw [kataAt_no a]
      rfl
    have e2 : f_X7_test M p = some (u1 M 26 0 9 1, 0) := by
      unfold f_X7_test
      rw [isKata_eq hM, if_pos (by rw [← c4]; exact a)]
      rfl
    exact ⟨_, _, _, _, _, e1, e2, rel_fail hR 1 (by decide), up_s⟩
  · have hv : vp_in p 8 := vp_of (by decide) (by grind) (show p < (8 : Int32) by grind)
    have c6p := c6 p.toNatClampNeg
    have r7 : (0 : Int32) ≤ X.1 7 p.toNatClampNeg 1 ∧ X.1 7 p.toNatClampNeg 1 ≤ (5 : Int32) := hX.at1 7 p.toNatClampNeg 1
    by_cases c : X.1 7 p.toNatClampNeg 1 < (5 : Int32)
    · have hv5 : vp_in (X.1 7 p.toNatClampNeg 1) 5 := vp_of (by decide) r7.1 (show X.1 7 p.toNatClampNeg 1 < (5 : Int32) by grind)
      have h9v : IV TT X (u1 X 7 p.toNatClampNeg 1 (X.1 7 p.toNatClampNeg 1 + 1)) := IV.w1 hX rfl trivial (show (0 : Int32) ≤ X.1 7 p.toNatClampNeg 1 + 1 ∧ X.1 7 p.toNatClampNeg 1 + 1 ≤ (5 : Int32) from ⟨by grind, by grind⟩)
      have h9 : OKS (u1 X 7 p.toNatClampNeg 1 (X.1 7 p.toNatClampNeg 1 + 1)) := h9v.oks
      have h8v : IV TT M (u1 M 33 0 p.toNatClampNeg (M.1 33 0 p.toNatClampNeg + 1)) := IV.w1 hM rfl trivial (show (0 : Int32) ≤ M.1 33 0 p.toNatClampNeg + 1 ∧ M.1 33 0 p.toNatClampNeg + 1 ≤ (5 : Int32) from ⟨by grind, by grind⟩)
      have h8 : OKS (u1 M 33 0 p.toNatClampNeg (M.1 33 0 p.toNatClampNeg + 1)) := h8v.oks
      obtain ⟨⟨X12, v11⟩, es, hs⟩ := w_X6_setTest _ h9 p ⟨by grind, by grind⟩ (5 * p.toNatClampNeg + (X.1 7 p.toNatClampNeg 1).toNatClampNeg)
      obtain ⟨⟨M11, v10⟩, em, hm⟩ := w_X7_puts _ h8 p ⟨by grind, by grind⟩ (M.1 33 0 p.toNatClampNeg) ⟨by grind, by grind⟩
      have e1 : f_L_test X O p = some (X12, u2 O 56 0 0 v11.toInt64, 0) := by
        unfold f_L_test f_X6_test
        rw [kataAt_in hX a]
        rw [e0_inl, if_pos c]
        rw [lq_e, lq_e, gd_t hv5, es]
        rfl
      have e2 : f_X7_test M p = some (u1 M11 26 0 9 0, v10) := by
        unfold f_X7_test
        rw [isKata_eq hM, if_neg (by rw [← c4]; exact a)]
        rw [b0_some, if_neg (by decide), gd_t hv, if_neg (by grind), gd_t hv, gd_t hv]
        rw [lq_e, gd_t hv]
        have ez : (u1 M 33 0 p.toNatClampNeg (M.1 33 0 p.toNatClampNeg + 1)).1 33 0 p.toNatClampNeg - 1 = M.1 33 0 p.toNatClampNeg := by
          rw [up_s]
          grind
        rw [ez, em]
        rfl
      have hm9v : IV TT M11 (u1 M11 26 0 9 0) := IV.w1 hm.1.oks rfl trivial (by decide)
      have hm9 : OKS (u1 M11 26 0 9 0) := hm9v.oks
      refine ⟨_, _, _, _, _, e1, e2, ⟨hs.1.oks, hm9, ?_, ?_, ?_, ?_, ?_, fun i => ?_⟩, up_s⟩
      · rw [hs.1.same (by simp), up_k (by decide), up_p (by decide), hm.1.same (by simp), up_k (by decide), c1]
      · rw [up_p (by decide)]
        exact hs.2.1.trans hm.2.1.symm
      · rw [up_p (by decide)]
        exact hs.2.2.trans hm.2.2.symm
      · rw [hs.1.same (by simp), up_k (by decide), up_p (by decide), hm.1.same (by simp), up_k (by decide), c4]
      · rw [hs.1.same (by simp), up_k (by decide), up_p (by decide), hm.1.same (by simp), up_k (by decide), c5]
      · have hx7 : X12.1 7 i 1 = (u1 X 7 p.toNatClampNeg 1 (X.1 7 p.toNatClampNeg 1 + 1)).1 7 i 1 := hs.1.same (by simp)
        have hm7 : M11.1 33 0 i = (u1 M 33 0 p.toNatClampNeg (M.1 33 0 p.toNatClampNeg + 1)).1 33 0 i := hm.1.same (by simp)
        rw [hx7, up_k (k := 33) (by decide), hm7, up_e, up_e]
        by_cases z : i = p.toNatClampNeg
        · rw [if_pos ⟨rfl, z, rfl⟩, if_pos ⟨rfl, rfl, z⟩, c6p]
        · rw [if_neg (fun q => z q.2.1), if_neg (fun q => z q.2.2), c6]
    · have e1 : f_L_test X O p = some (X, O, 2) := by
        unfold f_L_test f_X6_test
        rw [kataAt_in hX a]
        rw [e0_inl, if_neg c]
        rfl
      have e2 : f_X7_test M p = some (u1 M 26 0 9 2, 0) := by
        unfold f_X7_test
        rw [isKata_eq hM, if_neg (by rw [← c4]; exact a)]
        rw [b0_some, if_neg (by decide), gd_t hv, if_pos (by grind)]
        rfl
      exact ⟨_, _, _, _, _, e1, e2, rel_fail hR 2 (by decide), up_s⟩
theorem testAt_no {X : SS} {i : Nat} {q : Int32} (h : q < 0 ∨ X.1 7 i 1 ≤ q) : f_X6_testAt X i q = some (.inr "java/lang/IndexOutOfBoundsException") := by
  unfold f_X6_testAt
  by_cases z : q < 0
  · rw [if_pos z]
  · rw [if_neg z, if_neg (by grind)]
theorem testAt_in {X : SS} (hX : OKS X) {i : Nat} {q : Int32} (h : ¬ (q < 0 ∨ X.1 7 i 1 ≤ q)) : f_X6_testAt X i q = some (.inl (5 * i + q.toNatClampNeg)) := by
  have r1 : (0 : Int32) ≤ X.1 7 i 1 ∧ X.1 7 i 1 ≤ (5 : Int32) := hX.at1 7 i 1
  unfold f_X6_testAt
  rw [if_neg (fun z => h (Or.inl z)), if_pos (by grind), gd_t (vp_of (by decide) (by grind) (show q < (5 : Int32) by grind))]
theorem isTest_no {M : SS} (hM : OKS M) {p q : Int32} (h : (p < 0 ∨ M.1 26 0 3 ≤ p) ∨ (q < 0 ∨ M.1 33 0 p.toNatClampNeg ≤ q)) : f_X7_isTest M p q = some 0 := by
  have r1 : (0 : Int32) ≤ M.1 26 0 3 ∧ M.1 26 0 3 ≤ (8 : Int32) := hM.at1 26 0 3
  have r2 : (0 : Int32) ≤ M.1 33 0 p.toNatClampNeg ∧ M.1 33 0 p.toNatClampNeg ≤ (5 : Int32) := hM.at1 33 0 p.toNatClampNeg
  unfold f_X7_isTest
  rw [isKata_eq hM]
  by_cases a : p < 0 ∨ M.1 26 0 3 ≤ p
  · rw [if_pos a]
    rfl
  · rw [if_neg a]
    rw [b0_some, if_neg (by decide), gd_t (vp_of (by decide) (by grind) (show p < (8 : Int32) by grind)), in_eq]
    have h2 : q < 0 ∨ M.1 33 0 p.toNatClampNeg ≤ q := h.elim (fun z => absurd z a) id
    rw [if_pos (show q < 0 ∨ M.1 33 0 p.toNatClampNeg - 1 < q by grind)]
    rfl
theorem isTest_in {M : SS} (hM : OKS M) {p q : Int32} (a : ¬ (p < 0 ∨ M.1 26 0 3 ≤ p)) (h : ¬ (q < 0 ∨ M.1 33 0 p.toNatClampNeg ≤ q)) : f_X7_isTest M p q = some 1 := by
  have r1 : (0 : Int32) ≤ M.1 26 0 3 ∧ M.1 26 0 3 ≤ (8 : Int32) := hM.at1 26 0 3
  have r2 : (0 : Int32) ≤ M.1 33 0 p.toNatClampNeg ∧ M.1 33 0 p.toNatClampNeg ≤ (5 : Int32) := hM.at1 33 0 p.toNatClampNeg
  unfold f_X7_isTest
  rw [isKata_eq hM, if_neg a]
  rw [b0_some, if_neg (by decide), gd_t (vp_of (by decide) (by grind) (show p < (8 : Int32) by grind)), in_eq, if_neg (show ¬ (q < 0 ∨ M.1 33 0 p.toNatClampNeg - 1 < q) by grind)]
  rfl
theorem t_fix {X M O : SS} (hR : REL X M) (p q : Int32) : ∃ X2 O2 k M2 b, f_L_fix X O p q = some (X2, O2, k) ∧ f_X7_fix M p q = some (M2, b) ∧ REL X2 M2 ∧ M2.1 26 0 9 = k := by
  have hX := hR.1
  have hM := hR.2.1
  obtain ⟨c1, c2, c3, c4, c5, c6⟩ := hR.2.2
  have r1 : (0 : Int32) ≤ M.1 26 0 3 ∧ M.1 26 0 3 ≤ (8 : Int32) := hM.at1 26 0 3
  by_cases a : p < 0 ∨ X.1 0 0 9 ≤ p
  · have e1 : f_L_fix X O p q = some (X, O, 1) := by
      unfold f_L_fix f_X6_fix
      rw [kataAt_no a]
      rfl
    have e2 : f_X7_fix M p q = some (u1 M 26 0 9 1, 0) := by
      unfold f_X7_fix
      rw [isTest_no hM (Or.inl (by rw [← c4]; exact a))]
      rfl
    exact ⟨_, _, _, _, _, e1, e2, rel_fail hR 1 (by decide), up_s⟩
  · have c6p := c6 p.toNatClampNeg
    have r7 : (0 : Int32) ≤ X.1 7 p.toNatClampNeg 1 ∧ X.1 7 p.toNatClampNeg 1 ≤ (5 : Int32) := hX.at1 7 p.toNatClampNeg 1
    by_cases c : q < 0 ∨ X.1 7 p.toNatClampNeg 1 ≤ q
    · have e1 : f_L_fix X O p q = some (X, O, 1) := by
        unfold f_L_fix f_X6_fix
        rw [kataAt_in hX a]
        rw [e0_inl, testAt_no c]
        rfl
      have e2 : f_X7_fix M p q = some (u1 M 26 0 9 1, 0) := by
        unfold f_X7_fix
        rw [isTest_no hM (Or.inr (by rw [← c6p]; exact c))]
        rfl
      exact ⟨_, _, _, _, _, e1, e2, rel_fail hR 1 (by decide), up_s⟩
    · obtain ⟨⟨X12, v11⟩, es, hs⟩ := w_X6_setTest _ hX p ⟨by grind, by grind⟩ (5 * p.toNatClampNeg + q.toNatClampNeg)
      obtain ⟨⟨M11, v10⟩, em, hm⟩ := w_X7_puts _ hM p ⟨by grind, by grind⟩ q ⟨by grind, by grind⟩
      have e1 : f_L_fix X O p q = some (X12, u2 O 56 0 0 v11.toInt64, 0) := by
        unfold f_L_fix f_X6_fix
        rw [kataAt_in hX a]
        rw [e0_inl, testAt_in hX c]
        rw [e0_inl, es]
        rfl
      have e2 : f_X7_fix M p q = some (u1 M11 26 0 9 0, v10) := by
        unfold f_X7_fix
        rw [isTest_in hM (by rw [← c4]; exact a) (by rw [← c6p]; exact c)]
        rw [b0_some, if_neg (by decide), em]
        rfl
      have hm9v : IV TT M11 (u1 M11 26 0 9 0) := IV.w1 hm.1.oks rfl trivial (by decide)
      have hm9 : OKS (u1 M11 26 0 9 0) := hm9v.oks
      refine ⟨_, _, _, _, _, e1, e2, ⟨hs.1.oks, hm9, ?_, ?_, ?_, ?_, ?_, fun i => ?_⟩, up_s⟩
      · rw [hs.1.same (by simp), up_p (by decide), hm.1.same (by simp), c1]
      · rw [up_p (by decide)]
        exact hs.2.1.trans hm.2.1.symm
      · rw [up_p (by decide)]
        exact hs.2.2.trans hm.2.2.symm
      · rw [hs.1.same (by simp), up_p (by decide), hm.1.same (by simp), c4]
      · rw [hs.1.same (by simp), up_p (by decide), hm.1.same (by simp), c5]
      · rw [hs.1.same (by simp), up_k (by decide), hm.1.same (by simp), c6]
