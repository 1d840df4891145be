/-! the belts of isSound -/
theorem belts_1 {X : SS} (hX : OKS X) (hS : STY X) {m : Int32} (hm : (0 : Int32) ≤ m ∧ m ≤ (9 : Int32)) : ∃ Y v, f_X6_beltOf X m = some (Y, v) ∧ f_X6_beltFromBehind Y m = some (Y, v) ∧ OKS Y ∧ FR X Y := by
  obtain ⟨⟨Y, u⟩, e1, ⟨h1, -⟩, h2, h3⟩ := ok_and (s_X6_takeWorks (A := TT) (B := X) X hX m hm (fun _ => trivial)) (tw_eq hX hS m)
  simp only at h1 h2 h3
  obtain ⟨v, e2, -⟩ := s_X6_takenBelt (A := TT) (B := Y) Y h1.oks
  refine ⟨Y, v, ?_, ?_, h1.oks, h2⟩
  · unfold f_X6_beltOf
    rw [e1, b1_some, e2, b0_some]
  · have hY : OKS Y := h1.oks
    have key : ok (f_X6_beltFromBehind Y m) (fun r => r = (Y, v)) := by
      unfold f_X6_beltFromBehind
      refine ok_b1 (tn_eq Y) (fun X2 v1 w => ?_)
      obtain ⟨w1, w2⟩ := w
      simp only at w1 w2
      have f2 : FR X X2 := h2.trans w1
      have e11 : X2.1 0 0 11 = nI (X.1 0 0 11).toNatClampNeg := by
        rw [f2.1 0 0 11 (by simp), cl_nI (show (0 : Int32) ≤ X.1 0 0 11 from (hX.at1 0 0 11).1)]
      have hW : (X.1 0 0 11).toNatClampNeg ≤ 40 := cl_le (n := 40) (hX.at1 0 0 11).2 (by decide)
      rw [lq_e, e11]
      refine bb_L11 hX hS m 1000 _ X2 _ (by omega) (Nat.le_refl _) f2 (fun k hk => Or.inl ⟨w2 k hk, fun a h1 h2 => absurd h1 (by omega)⟩) (fun X5 g1 g2 => ?_)
      have e5 : X5 = Y := FR.eq g1 h2 (fun k hk => BST_one (g2 k hk) (h3 k hk))
      rw [e5, e2, b0_some]
      exact ok_some rfl
    obtain ⟨r, er, hr⟩ := key
    rw [er, hr]
theorem belts_L32 {X : SS} (hS : STY X) : ∀ (n v : Nat) (X6 : SS), 11 ≤ v + n → v ≤ 10 → OKS X6 → FR X X6 → ok (f_X6_areBeltsSound_L32 n (nI v) X6 (fun X4 => some (X4, (1 : Int32)))) (fun r => r.2 = 1 ∧ OKS r.1 ∧ FR X r.1) := by
  intro n
  induction n with
  | zero => intro v X6 h1 h2; omega
  | succ n ih =>
    intro v X6 h1 h2 hX hf
    have r10 : (0 : Int32) ≤ X6.1 0 0 10 ∧ X6.1 0 0 10 ≤ (10 : Int32) := hX.at1 0 0 10
    rw [f_X6_areBeltsSound_L32]
    refine ok_ite (fun c => ?_) (fun c => ?_)
    · exact ok_some ⟨rfl, hX, hf⟩
    · have hv : v < 10 := by
        have : nI v < nI 10 := show nI v < (10 : Int32) by grind
        exact (nI_ltI (by omega) (by decide)).mp this
      have hS6 : STY X6 := fun w hw => by
        have := hS w hw
        unfold UA UU at *
        rw [hf.1 12 w 5 (by simp), hf.1 12 w 6 (by simp)]
        exact this
      obtain ⟨Y, b, e1, e2, g1, g2⟩ := belts_1 hX hS6 (m := nI v) ⟨nI_pos' (by omega), (nI_leI (by omega) (by decide : (9 : Nat) < 2 ^ 31)).mpr (by omega)⟩
      refine ok_b1e e1 (ok_b1e e2 ?_)
      refine ok_ite (fun _ => ?_) (fun z => absurd rfl z)
      rw [nI_1]
      exact ih (v + 1) Y (by omega) (by omega) g1 (hf.trans g2)
/-! the sums of the votes -/
def sW (X : SS) (w : Nat) : Nat → Int32
  | 0 => 0
  | m + 1 => sW X w m + X.1 15 w m
def sV (X : SS) (w : Nat) : Nat → Int32
  | 0 => 0
  | m + 1 => sV X w m + X.1 14 w m * X.1 15 w m
def VOT (X : SS) : Prop := ∀ w : Nat, w < 40 → X.1 12 w 5 = sW X w 10 ∧ X.1 12 w 6 = sV X w 10 ∧ ∀ m : Nat, m < 10 → ((0 : Int32) ≤ X.1 14 w m ∧ X.1 14 w m ≤ (5 : Int32)) ∧ ((0 : Int32) ≤ X.1 15 w m ∧ X.1 15 w m ≤ (6 : Int32))
theorem sW_cong {X Y : SS} {w : Nat} : ∀ m : Nat, (∀ j, j < m → Y.1 15 w j = X.1 15 w j) → sW Y w m = sW X w m
  | 0, _ => rfl
  | m + 1, h => by
    unfold sW
    rw [sW_cong m (fun j hj => h j (by omega)), h m (by omega)]
theorem sV_cong {X Y : SS} {w : Nat} : ∀ m : Nat, (∀ j, j < m → Y.1 15 w j = X.1 15 w j ∧ Y.1 14 w j = X.1 14 w j) → sV Y w m = sV X w m
  | 0, _ => rfl
  | m + 1, h => by
    unfold sV
    rw [sV_cong m (fun j hj => h j (by omega)), (h m (by omega)).1, (h m (by omega)).2]
theorem i5_int {x : Int32} {n : Nat} (hn : n < 100) (h : (0 : Int32) ≤ x ∧ x ≤ nI n) : 0 ≤ x.toInt ∧ x.toInt ≤ n := by
  have h1 := Int32.le_iff_toInt_le.mp h.1
  have h2 := Int32.le_iff_toInt_le.mp h.2
  rw [toInt_z] at h1
  rw [nI_toInt (by omega)] at h2
  exact ⟨h1, h2⟩
theorem sW_in {X : SS} {w : Nat} : ∀ m : Nat, m ≤ 10 → (∀ j : Nat, j < m → (0 : Int32) ≤ X.1 15 w j ∧ X.1 15 w j ≤ (6 : Int32)) → 0 ≤ (sW X w m).toInt ∧ (sW X w m).toInt ≤ 6 * m
  | 0, _, _ => ⟨Int.le_refl 0, Int.le_refl 0⟩
  | m + 1, hm, h => by
    have ih := sW_in m (by omega) (fun j hj => h j (by omega))
    have hx := i5_int (n := 6) (by decide) (h m (by omega))
    unfold sW
    have e : (sW X w m + X.1 15 w m).toInt = (sW X w m).toInt + (X.1 15 w m).toInt := by
      rw [Int32.toInt_add]
      apply Int.bmod_eq_of_le <;> omega
    rw [e]
    omega
theorem sV_in {X : SS} {w : Nat} : ∀ m : Nat, m ≤ 10 → (∀ j : Nat, j < m → ((0 : Int32) ≤ X.1 14 w j ∧ X.1 14 w j ≤ (5 : Int32)) ∧ ((0 : Int32) ≤ X.1 15 w j ∧ X.1 15 w j ≤ (6 : Int32))) → 0 ≤ (sV X w m).toInt ∧ (sV X w m).toInt ≤ 30 * m
  | 0, _, _ => ⟨Int.le_refl 0, Int.le_refl 0⟩
  | m + 1, hm, h => by
    have ih := sV_in m (by omega) (fun j hj => h j (by omega))
    have hx := i5_int (n := 5) (by decide) (h m (by omega)).1
    have hy := i5_int (n := 6) (by decide) (h m (by omega)).2
    have p0 : 0 ≤ (X.1 14 w m).toInt * (X.1 15 w m).toInt := Int.mul_nonneg hx.1 hy.1
    have p1 : (X.1 14 w m).toInt * (X.1 15 w m).toInt ≤ 5 * 6 := Int.mul_le_mul hx.2 hy.2 hy.1 (by omega)
    have em : (X.1 14 w m * X.1 15 w m).toInt = (X.1 14 w m).toInt * (X.1 15 w m).toInt := by
      rw [Int32.toInt_mul]
      apply Int.bmod_eq_of_le <;> omega
    unfold sV
    have e : (sV X w m + X.1 14 w m * X.1 15 w m).toInt = (sV X w m).toInt + (X.1 14 w m * X.1 15 w m).toInt := by
      rw [Int32.toInt_add, em]
      apply Int.bmod_eq_of_le <;> omega
    rw [e, em]
    omega
theorem VOT.sty {X : SS} (h : VOT X) : STY X := by
  intro w hw
  obtain ⟨h1, h2, h3⟩ := h w hw
  have a := sW_in (X := X) (w := w) 10 (Nat.le_refl _) (fun j hj => (h3 j hj).2)
  have b := sV_in (X := X) (w := w) 10 (Nat.le_refl _) h3
  unfold UA UU
  rw [h1, h2]
  by_cases z : sW X w 10 = 0
  · rw [if_pos z, if_pos z]
    exact ⟨⟨by decide, by decide⟩, by decide, by decide⟩
  · rw [if_neg z, if_neg z]
    have nz : (sW X w 10).toInt ≠ 0 := by
      intro q
      apply z
      apply Int32.toInt_inj.mp
      rw [q]
      rfl
    omega
theorem as_L7 {X : SS} {w : Nat} {P : Int32 → Prop} : ∀ (n v : Nat) (a b : Int32) (k : Int32 → Int32 → Option Int32), v + 1 ≤ n → v ≤ 10 → f_X5_areSumsOfVotes_L7 X w n (nI v - 1) a b k = k (a + sV X w v) (b + sW X w v) := by
  intro n
  induction n with
  | zero => intro v a b k h1; omega
  | succ n ih =>
    intro v a b k h1 h2
    rw [f_X5_areSumsOfVotes_L7]
    cases v with
    | zero =>
      show (if (nI 0 - 1 : Int32) < 0 then k a b else _) = _
      rw [if_pos (by decide)]
      show k a b = k (a + 0) (b + 0)
      rw [Int32.add_zero, Int32.add_zero]
    | succ v =>
      rw [nI_pred]
      show (if (nI v : Int32) < 0 then k a b else _) = _
      have hv : vp_in (nI v) 10 := nI_in (by omega) (by decide)
      rw [if_neg (nI_pos (by omega)), gd_t hv, lq_e, gd_t hv, gd_t hv, lq_e, nI_clamp (by omega), show nI v + (-1 : Int32) = nI v - 1 by grind, ih v _ _ k (by omega) (by omega)]
      rw [show sV X w (v + 1) = sV X w v + X.1 14 w v * X.1 15 w v from rfl, show sW X w (v + 1) = sW X w v + X.1 15 w v from rfl]
      rw [show a + X.1 14 w v * X.1 15 w v + sV X w v = a + (sV X w v + X.1 14 w v * X.1 15 w v) by grind, show b + X.1 15 w v + sW X w v = b + (sW X w v + X.1 15 w v) by grind]
theorem as_eq {X : SS} (h : VOT X) {w : Nat} (hw : w < 40) : f_X5_areSumsOfVotes X w = some 1 := by
  obtain ⟨h1, h2, -⟩ := h w hw
  unfold f_X5_areSumsOfVotes
  rw [show (9 : Int32) = nI 10 - 1 by decide, as_L7 (P := fun _ => True) 1000 10 0 0 _ (by omega) (by omega), Int32.zero_add, Int32.zero_add, h1, h2, if_pos rfl, if_pos rfl]
theorem belts_L2 {X : SS} (hX : OKS X) (h : VOT X) {P : SS × Int32 → Prop} : ∀ (n v : Nat) (k : Unit → Option (SS × Int32)), 41 ≤ v + n → v ≤ 40 → ok (k ()) P → ok (f_X6_areBeltsSound_L2 X n (nI v) k) P := by
  have r11 : (0 : Int32) ≤ X.1 0 0 11 ∧ X.1 0 0 11 ≤ (40 : Int32) := hX.at1 0 0 11
  intro n
  induction n with
  | zero => intro v k h1 h2; omega
  | succ n ih =>
    intro v k h1 h2 hk
    rw [f_X6_areBeltsSound_L2]
    refine ok_ite (fun c => hk) (fun c => ?_)
    have hv : v < 40 := by
      have : nI v < nI 40 := show nI v < (40 : Int32) by grind
      exact (nI_ltI (by omega) (by decide)).mp this
    refine ok_gd (nI_in hv (by decide)) (fun _ => ?_)
    rw [nI_clamp (by omega), nI_1]
    refine ok_b0e (as_eq h hv) ?_
    exact ok_ite (fun z => absurd z (by decide)) (fun _ => ih (v + 1) k (by omega) (by omega) hk)
theorem belts_eq {X : SS} (hX : OKS X) (h : VOT X) : ok (f_X6_areBeltsSound X) (fun r => r.2 = 1 ∧ OKS r.1 ∧ FR X r.1) := by
  unfold f_X6_areBeltsSound
  exact belts_L2 hX h 1000 0 _ (by omega) (by omega) (belts_L32 h.sty 1000 0 X (by omega) (by omega) hX (FR.refl X))
