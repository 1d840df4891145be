/-! submit: passing all tests -/
noncomputable def PASS (X : SS) (k : Nat) : Int32 := @ite _ (∀ t : Nat, t < (X.1 7 k 1).toNatClampNeg → CODE X (5 * k + t) = 111) (Classical.propDecidable _) 1 0
theorem PASS_1 {X : SS} {k : Nat} (h : ∀ t : Nat, t < (X.1 7 k 1).toNatClampNeg → CODE X (5 * k + t) = 111) : PASS X k = 1 := by
  unfold PASS
  rw [if_pos h]
theorem PASS_0 {X : SS} {k t : Nat} (ht_ : t < (X.1 7 k 1).toNatClampNeg) (h : ¬ CODE X (5 * k + t) = 111) : PASS X k = 0 := by
  unfold PASS
  rw [if_neg (fun z => h (z t ht_))]
theorem px_L2 {X : SS} {k : Nat} (hw : WH (X.1 2 0) (X.1 1 0 2).toNatClampNeg) (hc : (0 : Int32) ≤ X.1 7 k 1 ∧ X.1 7 k 1 ≤ (5 : Int32)) : ∀ (n a : Nat) (Y : SS), 6 ≤ a + n → a ≤ 5 → nI a ≤ X.1 7 k 1 → OKS Y → (∀ k i p : Nat, 1 ≤ k → k ≤ 7 → Y.1 k i p = X.1 k i p) → (∀ t, t < a → CODE X (5 * k + t) = 111) →
    ok (f_X6_passesAll_L2 k 0 n (nI a) Y (fun X2 => some (X2, (1 : Int32)))) (fun r => r.2 = PASS X k) := by
  intro n
  induction n with
  | zero => intro a Y h1 h2; omega
  | succ n ih =>
    intro a Y h1 h2 h3 hY hf hp
    rw [f_X6_passesAll_L2]
    show ok (if Y.1 7 k 1 ≤ nI a then some (Y, (1 : Int32)) else _) _
    rw [hf 7 k 1 (by omega) (by omega)]
    refine ok_ite (fun c => ?_) (fun c => ?_)
    · have e : X.1 7 k 1 = nI a := by grind
      exact ok_some (PASS_1 (fun t ht_ => hp t (by rw [e, nI_clamp (by omega)] at ht_; exact ht_))).symm
    · have hlt : nI a < X.1 7 k 1 := by grind
      have ha : a < 5 := (nI_ltI (by omega) (by decide)).mp (show nI a < nI 5 by show nI a < (5 : Int32); grind)
      have hl : a < (X.1 7 k 1).toNatClampNeg := by
        have := cl_mono (x := nI a) (nI_pos' (by omega)) hlt
        rw [nI_clamp (by omega)] at this
        exact this
      refine ok_gd (nI_in ha (by decide)) (fun _ => ?_)
      rw [nI_clamp (by omega)]
      refine ok_b1 (ok_and (w_X1_execute Y hY 1 0 (5 * k + a)) (xr_eq (X := X) hY 1 (t := 5 * k + a) hw (fun k i p h => hf k i p (by omega) (by omega)))) (fun X8 v7 w => ?_)
      obtain ⟨ws, wv, -⟩ := w
      simp only at ws wv
      refine ok_ite (fun q => ?_) (fun q => ?_)
      · rw [nI_1]
        refine ih (a + 1) X8 (by omega) (by omega) (by rw [← nI_1]; grind) ws.1.oks (fun k i p g1 g2 => ?_) (fun t ht_ => ?_)
        · rw [ws.1.same (by simp; omega), hf k i p g1 g2]
        · by_cases y : t = a
          · rw [y, ← wv]; exact q
          · exact hp t (by omega)
      · exact ok_some (PASS_0 hl (fun z => q (wv.trans z))).symm
theorem pm_L5 {X M : SS} (hR : REL X M) {k : Nat} (hk : k < 8) (hw : WH (X.1 2 0) (X.1 1 0 2).toNatClampNeg) (hc : (0 : Int32) ≤ X.1 7 k 1 ∧ X.1 7 k 1 ≤ (5 : Int32)) : ∀ (n a : Nat) (N : SS), 6 ≤ a + n → a ≤ 5 → nI a ≤ X.1 7 k 1 → OKS N → (∀ k p : Nat, 27 ≤ k → k ≤ 37 → N.1 k 0 p = M.1 k 0 p) → (∀ t, t < a → CODE X (5 * k + t) = 111) →
    ok (f_X7_passes_L5 (nI k) 40 n (nI a) 1 N (fun v2 M3 => gd (okz v2) (some (M3, v2)))) (fun r => r.2 = PASS X k) := by
  intro n
  induction n with
  | zero => intro a N h1 h2; omega
  | succ n ih =>
    intro a N h1 h2 h3 hN hf hp
    have o1 : okz 1 := okz_of (by decide) (by decide)
    have o0 : okz 0 := okz_of (by decide) (by decide)
    have hv8 : vp_in (nI k) 8 := nI_in hk (by decide)
    have e33 : ∀ N : SS, (∀ k p : Nat, 27 ≤ k → k ≤ 37 → N.1 k 0 p = M.1 k 0 p) → N.1 33 0 k = X.1 7 k 1 := fun N hf => by rw [hf 33 k (by omega) (by omega), hR.2.2.1.2.2.2.2.2 k]
    rw [f_X7_passes_L5]
    show ok (gd (vp_in (nI k) 8) (if N.1 33 0 (nI k).toNatClampNeg ≤ nI a then gd (okz 1) (some (N, (1 : Int32))) else if (1 : Int32) = 0 then gd (okz 1) (some (N, (1 : Int32))) else _)) _
    refine ok_gd hv8 (fun _ => ?_)
    rw [nI_clamp (by omega), e33 N hf]
    refine ok_ite (fun c => ?_) (fun c => ?_)
    · have e : X.1 7 k 1 = nI a := by grind
      exact ok_gd o1 (fun _ => ok_some (PASS_1 (fun t ht_ => hp t (by rw [e, nI_clamp (by omega)] at ht_; exact ht_))).symm)
    · have hlt : nI a < X.1 7 k 1 := by grind
      have ha : a < 5 := (nI_ltI (by omega) (by decide)).mp (show nI a < nI 5 by show nI a < (5 : Int32); grind)
      have hl : a < (X.1 7 k 1).toNatClampNeg := by
        have := cl_mono (x := nI a) (nI_pos' (by omega)) hlt
        rw [nI_clamp (by omega)] at this
        exact this
      refine ok_ite (fun z => absurd z (by decide)) (fun _ => ?_)
      have hix : ((5 : Int32) * nI k) + nI a = nI (5 * k + a) := (ix_lin (p := k) (v := a) 5 (by decide) (by omega) (by omega)).1
      rw [hix]
      refine ok_b1 (mr_eq (N := N) hR hN (t := 5 * k + a) (by omega) hw (fun k p h => hf k p (by omega) (by omega))) (fun M12 v11 w => ?_)
      obtain ⟨wI, wv, -⟩ := w
      simp only at wI wv
      have hf12 : ∀ k p : Nat, 27 ≤ k → k ≤ 37 → M12.1 k 0 p = M.1 k 0 p := fun k p g1 g2 => by
        rw [wI.same (fun z => by rcases z with z | z | z <;> omega), hf k p g1 g2]
      rw [nI_1]
      refine ok_ite (fun q => ?_) (fun q => ?_)
      · refine ih (a + 1) M12 (by omega) (by omega) (by rw [← nI_1]; grind) wI.oks hf12 (fun t ht_ => ?_)
        by_cases y : t = a
        · rw [y, ← wv]; exact q
        · exact hp t (by omega)
      · obtain ⟨n', rfl⟩ : ∃ n', n = n' + 1 := ⟨n - 1, by omega⟩
        have hz : PASS X k = 0 := PASS_0 hl (fun z => q (wv.trans z))
        rw [f_X7_passes_L5]
        show ok (gd (vp_in (nI k) 8) (if M12.1 33 0 (nI k).toNatClampNeg ≤ nI (a + 1) then gd (okz 0) (some (M12, (0 : Int32))) else if (0 : Int32) = 0 then gd (okz 0) (some (M12, (0 : Int32))) else _)) _
        refine ok_gd hv8 (fun _ => ?_)
        refine ok_ite (fun _ => ok_gd o0 (fun _ => ok_some hz.symm)) (fun _ => ?_)
        exact ok_ite (fun _ => ok_gd o0 (fun _ => ok_some hz.symm)) (fun z => absurd rfl z)
/-! the sum of a program -/
def SM (pl pn : Nat → Int32) : Nat → Int64
  | 0 => 17
  | k + 1 => (SM pl pn k * 31 + (pl k).toInt64) * 31 + (pn k).toInt64
theorem SM_cong {pl pn pl2 pn2 : Nat → Int32} {k : Nat} (h : ∀ a, a < k → pl a = pl2 a ∧ pn a = pn2 a) : SM pl pn k = SM pl2 pn2 k := by
  induction k with
  | zero => rfl
  | succ k ih =>
    unfold SM
    rw [ih (fun a ha => h a (by omega)), (h k (by omega)).1, (h k (by omega)).2]
theorem sx_eq {X : SS} (hX : OKS X) (i : Nat) : f_X3_sumOfAll X i = some (SM (X.1 2 i) (X.1 3 i) (X.1 1 i 2).toNatClampNeg) := by
  have rl : (0 : Int32) ≤ X.1 1 i 2 ∧ X.1 1 i 2 ≤ (24 : Int32) := hX.at1 1 i 2
  have el := cl_nI rl.1
  have hl24 : (X.1 1 i 2).toNatClampNeg ≤ 24 := cl_le rl.2 (by decide)
  generalize (X.1 1 i 2).toNatClampNeg = len at el hl24
  have key : ∀ (n a : Nat), 25 ≤ a + n → a ≤ len → f_X3_sumOfAll_L6 X i n (nI a) (SM (X.1 2 i) (X.1 3 i) a) (fun v3 => some v3) = some (SM (X.1 2 i) (X.1 3 i) len) := by
    intro n
    induction n with
    | zero => intro a h1 h2; omega
    | succ n ih =>
      intro a h1 h2
      rw [f_X3_sumOfAll_L6]
      show (if X.1 1 i 2 ≤ nI a then some (SM (X.1 2 i) (X.1 3 i) a) else _) = _
      rw [← el]
      by_cases c : nI len ≤ nI a
      · rw [if_pos c]
        rw [nI_leI (by omega) (by omega)] at c
        rw [show a = len by omega]
      · rw [if_neg c]
        rw [nI_leI (by omega) (by omega)] at c
        have hv : vp_in (nI a) 24 := nI_in (by omega) (by decide)
        rw [gd_t hv, lq_e, gd_t hv, lq_e, nI_clamp (by omega), nI_1]
        exact ih (a + 1) (by omega) (by omega)
  unfold f_X3_sumOfAll
  rw [lq_e]
  exact key 1000 0 (by omega) (by omega)
theorem sm_eq {M : SS} (hM : OKS M) {p : Nat} (hp : p ≤ 40) {pl pn : Nat → Int32} (hpl : ∀ a : Nat, a < (M.1 29 0 p).toNatClampNeg → M.1 27 0 (24 * p + a) = pl a ∧ M.1 28 0 (24 * p + a) = pn a) : f_X7_sumOf M (nI p) = some (SM pl pn (M.1 29 0 p).toNatClampNeg) := by
  have rl : (0 : Int32) ≤ M.1 29 0 p ∧ M.1 29 0 p ≤ (24 : Int32) := hM.at1 29 0 p
  have el := cl_nI rl.1
  have hl24 : (M.1 29 0 p).toNatClampNeg ≤ 24 := cl_le rl.2 (by decide)
  generalize (M.1 29 0 p).toNatClampNeg = len at el hl24 hpl
  have hpc : (nI p).toNatClampNeg = p := nI_clamp (by omega)
  have key : ∀ (n a : Nat), 25 ≤ a + n → a ≤ len → f_X7_sumOf_L7 (nI p) M n (nI a) (SM pl pn a) (fun v3 => some v3) = some (SM pl pn len) := by
    intro n
    induction n with
    | zero => intro a h1 h2; omega
    | succ n ih =>
      intro a h1 h2
      rw [f_X7_sumOf_L7]
      show gd (vp_in (nI p) 41) (if M.1 29 0 (nI p).toNatClampNeg ≤ nI a then some (SM pl pn a) else _) = _
      rw [gd_t (show vp_in (nI p) 41 from nI_in (by omega) (by decide)), hpc, ← el]
      by_cases c : nI len ≤ nI a
      · rw [if_pos c]
        rw [nI_leI (by omega) (by omega)] at c
        rw [show a = len by omega]
      · rw [if_neg c]
        rw [nI_leI (by omega) (by omega)] at c
        have hix := ix_lin (p := p) (v := a) 24 (by decide) hp (by omega)
        have hvx : vp_in (((24 : Int32) * nI p) + nI a) 984 := by
          rw [show (24 : Int32) = nI 24 from rfl, hix.1]
          exact nI_in (by omega) (by decide)
        rw [gd_t hvx, gd_t hvx, lq_e, show (((24 : Int32) * nI p) + nI a).toNatClampNeg = 24 * p + a from hix.2, (hpl a (by omega)).1, (hpl a (by omega)).2, nI_1, Int64.mul_comm 31 (SM pl pn a), Int64.mul_comm 31 (SM pl pn a * 31 + (pl a).toInt64)]
        exact ih (a + 1) (by omega) (by omega)
  unfold f_X7_sumOf
  rw [lq_e]
  exact key 1000 0 (by omega) (by omega)
theorem u2_i {X : SS} {k i j p q : Nat} {x : Int64} (h : ¬ (i = j ∧ p = q)) : (u2 X k j q x).2.1 k i p = X.2.1 k i p := by
  simp only [u2, up3]
  rw [if_neg (fun z => h ⟨z.2.1, z.2.2⟩)]
theorem u2_s {X : SS} {k i p : Nat} {x : Int64} : (u2 X k i p x).2.1 k i p = x := by
  simp [u2, up3]
/-- the copy of what is typed -/
theorem cpf_L14 {M : SS} (hM : OKS M) {q : Nat} (hq : q ≤ 39) {P : SS × Unit → Prop} : ∀ (n a : Nat) (M7 : SS) (k4 : SS → Option (SS × Unit)), 25 ≤ a + n → a ≤ 24 → M7.1 29 0 40 = M.1 29 0 40 → (∀ p : Nat, 960 ≤ p → M7.1 27 0 p = M.1 27 0 p ∧ M7.1 28 0 p = M.1 28 0 p) → M7.1 29 0 q = M.1 29 0 40 → (∀ b : Nat, b < a → M7.1 27 0 (24 * q + b) = M.1 27 0 (24 * 40 + b) ∧ M7.1 28 0 (24 * q + b) = M.1 28 0 (24 * 40 + b)) →
    (∀ M5 : SS, M5.1 29 0 q = M.1 29 0 40 → (∀ b : Nat, b < (M.1 29 0 40).toNatClampNeg → M5.1 27 0 (24 * q + b) = M.1 27 0 (24 * 40 + b) ∧ M5.1 28 0 (24 * q + b) = M.1 28 0 (24 * 40 + b)) → ok (k4 M5) P) → ok (f_X7_copies_L14 40 (nI q) n (nI a) M7 k4) P := by
  intro n
  induction n with
  | zero => intro a M7 k4 hF ha; omega
  | succ n ih =>
    intro a M7 k4 hF ha h40 hs hq2 hb hk
    have hr : (0 : Int32) ≤ M.1 29 0 40 ∧ M.1 29 0 40 ≤ (24 : Int32) := hM.at1 29 0 40
    rw [f_X7_copies_L14]
    refine ok_gd (nI_in (c := 40) (by decide) (by decide)) (fun g => ?_)
    rw [show ((40 : Int32)).toNatClampNeg = 40 from rfl, h40]
    refine ok_ite (fun c => ?_) (fun c => ?_)
    · refine hk M7 hq2 (fun b hb2 => hb b ?_)
      have := cl_mono2 hr.1 c
      rw [nI_clamp (by omega)] at this
      omega
    · have hsz : nI a < M.1 29 0 40 := by grind
      have ha24 : a < 24 := by
        have : nI a < (24 : Int32) := by grind
        exact (nI_ltI (by omega) (by decide : (24 : Nat) < 2 ^ 31)).mp this
      have e1 : ((24 : Int32) * (40 : Int32)) + nI a = nI (24 * 40 + a) := by rw [show (24 : Int32) = nI 24 from rfl, show (40 : Int32) = nI 40 from rfl, pk_mul, nI_add]
      have e2 : ((24 : Int32) * nI q) + nI a = nI (24 * q + a) := by rw [show (24 : Int32) = nI 24 from rfl, pk_mul, nI_add]
      rw [e1, e2, nI_clamp (show 24 * 40 + a < 2 ^ 31 by omega), nI_clamp (show 24 * q + a < 2 ^ 31 by omega)]
      have v1 : vp_in (nI (24 * 40 + a)) 984 := nI_in (by omega) (by decide)
      have v2 : vp_in (nI (24 * q + a)) 984 := nI_in (by omega) (by decide)
      refine ok_gd v1 (fun _ => ok_gd v2 (fun _ => ok_lq (fun M12 e12 => ok_gd v1 (fun _ => ok_gd v2 (fun _ => ok_lq (fun M15 e15 => ?_))))))
      have hL : isL (M.1 27 0 (24 * 40 + a)) := hM.2.2 40 a (Nat.le_refl _) ha24 hsz
      rw [(hs (24 * 40 + a) (by omega)).1, nar_isL hL] at e12
      have e28 : M12.1 28 0 (24 * 40 + a) = M.1 28 0 (24 * 40 + a) := by rw [e12, up_k (by decide), (hs (24 * 40 + a) (by omega)).2]
      rw [e28] at e15
      rw [nI_1]
      refine ih (a + 1) M15 k4 (by omega) (by omega) (by rw [e15, up_k (by decide), e12, up_k (by decide), h40]) (fun p hp => ?_) (by rw [e15, up_k (by decide), e12, up_k (by decide), hq2]) (fun b hb2 => ?_) hk
      · rw [e15, up_k (by decide), up_p (by omega), e12, up_p (by omega), up_k (by decide)]
        exact hs p hp
      · by_cases z : b = a
        · rw [z, e15, up_k (by decide), up_s, e12, up_s]
          exact ⟨rfl, rfl⟩
        · rw [e15, up_k (by decide), up_p (by omega), e12, up_p (by omega), up_k (by decide)]
          exact hb b (by omega)
theorem cpf_eq {M : SS} (hM : OKS M) {q : Nat} (hq : q ≤ 39) : ok (f_X7_copies M 40 (nI q)) (fun r => r.1.1 29 0 q = M.1 29 0 40 ∧ ∀ b : Nat, b < (M.1 29 0 40).toNatClampNeg → r.1.1 27 0 (24 * q + b) = M.1 27 0 (24 * 40 + b) ∧ r.1.1 28 0 (24 * q + b) = M.1 28 0 (24 * 40 + b)) := by
  unfold f_X7_copies
  refine ok_gd (nI_in (c := 40) (by decide) (by decide)) (fun _ => ok_gd (nI_in (by omega) (by decide)) (fun _ => ok_lq (fun M3 e3 => ?_)))
  rw [nI_clamp (by omega), show ((40 : Int32)).toNatClampNeg = 40 from rfl] at e3
  exact cpf_L14 hM hq 1000 0 M3 _ (by omega) (by omega) (by rw [e3, up_p (by omega)]) (fun p _ => by rw [e3, up_k (by decide), up_k (by decide)]; exact ⟨rfl, rfl⟩) (by rw [e3, up_s]) (fun b hb => absurd hb (by omega)) (fun M5 h1 h2 => ok_some ⟨h1, h2⟩)
/-- making room takes no negative number of bodies -/
theorem mp_L2 {P : SS × Int32 → Prop} : ∀ (n a : Nat) (M5 : SS) (k1 : Int32 → SS → Option (SS × Int32)), ((nb M5 (M5.1 26 0 5).toNatClampNeg : Nat) : Int) + 1 ≤ (n : Nat) → a + nb M5 (M5.1 26 0 5).toNatClampNeg ≤ 41 → OKS M5 → (∀ (b : Nat) (M : SS), b ≤ 41 → ok (k1 (nI b) M) P) → ok (f_X7_makesRoom_L2 n (nI a) M5 k1) P := by
  intro n
  induction n with
  | zero => intro a M5 k1 hF; omega
  | succ n ih =>
    intro a M5 k1 hF hs hM5 hk
    rw [f_X7_makesRoom_L2]
    have hw : (0 : Int32) ≤ M5.1 26 0 5 ∧ M5.1 26 0 5 ≤ (40 : Int32) := hM5.at1 26 0 5
    have hr : (0 : Int32) ≤ M5.1 26 0 6 ∧ M5.1 26 0 6 ≤ (40 : Int32) := hM5.at1 26 0 6
    show ok (b0 (f_X7_bodyCount M5) _) _
    rw [bc_all hw]
    refine ok_b0 ⟨_, rfl, rfl⟩ (fun v6 w6 => ?_)
    refine ok_ite (fun q => hk a M5 (by omega)) (fun q => ?_)
    have hpos : nb M5 (M5.1 26 0 5).toNatClampNeg ≠ 0 := by
      intro z
      rw [z] at w6
      apply q
      rw [← w6]
      exact hr.1
    refine mr_L17 hM5 1000 0 (-1) _ (FU.start (by decide) (by decide)) (by decide) hw.1 (Or.inl ⟨rfl, rfl⟩) (fun v10 hv => ?_)
    rcases hv with ⟨-, hz⟩ | ⟨h0, hlt, hb⟩
    · exact absurd hz hpos
    · have d2 := s_X7_drops (A := (fun k _ p => (k = 26 ∧ p = 38) ∨ (k = 26 ∧ p = 39) ∨ (k = 26 ∧ p = 40) ∨ (k = 42 ∧ p = (v10).toNatClampNeg) ∨ (k = 43 ∧ p = (v10).toNatClampNeg) ∨ (k = 44) ∨ (k = 45) ∨ (k = 53) ∨ (k = 54))) (B := M5) M5 hM5.self v10 ⟨h0, by grind⟩ (by simp) (by simp) (by simp) (by simp) (by simp) (by simp) (by simp) (by simp) (by simp)
      refine ok_b1 d2 (fun M14 v13 w => ?_)
      have hz : M14.1 43 0 v10.toNatClampNeg = 0 := w.2
      have h5 : M14.1 26 0 5 = M5.1 26 0 5 := w.1.same (by simp)
      have h43 : ∀ i, i ≠ v10.toNatClampNeg → M14.1 43 0 i = M5.1 43 0 i := fun i hi => w.1.same (by simp [hi])
      have hj : v10.toNatClampNeg < (M5.1 26 0 5).toNatClampNeg := cl_mono h0 hlt
      have hd := nb_drop (M := M5) (M2 := M14) hj hb hz (fun i hi => by rw [h43 i hi])
      rw [nI_1]
      refine ih (a + 1) M14 k1 ?_ ?_ w.1.oks hk
      · rw [h5]; omega
      · rw [h5]; omega
theorem mp_eq {M : SS} (hM : OKS M) : ok (f_X7_makesRoom M) (fun r => (0 : Int32) ≤ r.2) := by
  have h5 := hM.at1 26 0 5
  have hb := nb_le M (M.1 26 0 5).toNatClampNeg
  have hl : (M.1 26 0 5).toNatClampNeg ≤ 40 := cl_le h5.2 (by decide)
  unfold f_X7_makesRoom
  exact mp_L2 1000 0 M _ (nb_start h5.2) (by omega) hM (fun b M hb => ok_some (nI_pos' (by omega)))
theorem isMember_eq {M : SS} (hM : OKS M) (p : Int32) : f_X7_isMember M p = some (if p < 0 ∨ M.1 26 0 4 ≤ p then 0 else 1) := by
  have r1 : (0 : Int32) ≤ M.1 26 0 4 ∧ M.1 26 0 4 ≤ (10 : Int32) := hM.at1 26 0 4
  unfold f_X7_isMember
  rw [in_eq]
  by_cases h : p < 0 ∨ M.1 26 0 4 ≤ p
  · rw [if_pos h, if_pos (show p < 0 ∨ M.1 26 0 4 - 1 < p by grind)]
    rw [b0_some, gd_t (okz_of (by decide) (by decide))]
  · rw [if_neg h, if_neg (show ¬ (p < 0 ∨ M.1 26 0 4 - 1 < p) by grind)]
    rw [b0_some, gd_t (okz_of (by decide) (by decide))]
theorem memberAt_no {X : SS} {p : Int32} (h : p < 0 ∨ X.1 0 0 10 ≤ p) : f_X6_memberAt X p = some (.inr "java/lang/IndexOutOfBoundsException") := by
  unfold f_X6_memberAt
  by_cases z : p < 0
  · rw [if_pos z]
  · rw [if_neg z, if_neg (by grind)]
theorem memberAt_in {X : SS} (hX : OKS X) {p : Int32} (h : ¬ (p < 0 ∨ X.1 0 0 10 ≤ p)) : f_X6_memberAt X p = some (.inl p.toNatClampNeg) := by
  have r1 : (0 : Int32) ≤ X.1 0 0 10 ∧ X.1 0 0 10 ≤ (10 : Int32) := hX.at1 0 0 10
  unfold f_X6_memberAt
  rw [if_neg (fun z => h (Or.inl z)), if_pos (by grind), gd_t (vp_of (by decide) (by grind) (show p < (10 : Int32) by grind))]
theorem bg_eq {X : SS} (hX : OKS X) (w : Nat) {p q : Int32} (hp : (0 : Int32) ≤ p ∧ p ≤ (9 : Int32)) (hq : (0 : Int32) ≤ q ∧ q ≤ (7 : Int32)) : ok (f_X5_begin X w p q 0) (fun r => OKS r.1 ∧ r.1.2.1 12 w 10 = SM (X.1 2 0) (X.1 3 0) (X.1 1 0 2).toNatClampNeg ∧ (∀ v : Nat, v ≠ w → r.1.2.1 12 v 10 = X.2.1 12 v 10) ∧ r.1.1 0 0 11 = X.1 0 0 11) := by
  unfold f_X5_begin
  refine ok_lq (fun X1 e1 => ok_lq (fun X2 e2 => ok_lq (fun X3 e3 => ?_)))
  have h1 : OKS X1 := by rw [e1]; have i : IV TT X (u1 X 12 w 7 p) := IV.w1 hX rfl trivial hp; exact i.oks
  have h2 : OKS X2 := by rw [e2]; have i : IV TT X1 (u1 X1 12 w 8 q) := IV.w1 h1 rfl trivial hq; exact i.oks
  have h3 : OKS X3 := by rw [e3]; have i : IV TT X2 (u1 X2 12 w 9 (X2.1 1 0 2)) := IV.w1f h2 rfl trivial rfl; exact i.oks
  have f3 : ∀ k i p : Nat, k ≠ 12 → X3.1 k i p = X.1 k i p := fun k i p h => by rw [e3, up_k h, e2, up_k h, e1, up_k h]
  have g3 : X3.2.1 = X.2.1 := by rw [e3, e2, e1]; rfl
  refine ok_b0e (sx_eq h3 0) ?_
  rw [f3 1 0 2 (by decide), show X3.1 2 0 = X.1 2 0 from funext fun a => f3 2 0 a (by decide), show X3.1 3 0 = X.1 3 0 from funext fun a => f3 3 0 a (by decide)]
  refine ok_lq (fun X6 e6 => ok_lq (fun X7 e7 => ?_))
  have h6 : OKS X6 := by rw [e6]; have i : IV TT X3 (u2 X3 12 w 10 (SM (X.1 2 0) (X.1 3 0) (X.1 1 0 2).toNatClampNeg)) := IV.w2 h3 trivial; exact i.oks
  have h7 : OKS X7 := by rw [e7]; have i : IV TT X6 (u1 X6 12 w 11 115) := IV.w1 h6 rfl trivial (show (0 : Int32) ≤ (115 : Int32) ∧ (115 : Int32) ≤ (65535 : Int32) from ⟨by decide, by decide⟩); exact i.oks
  refine ok_b1 (w_X5_regain X7 h7 w 0) (fun X9 v8 w9 => ok_some ⟨w9.1.oks, ?_, fun v hv => ?_, ?_⟩)
  · rw [w9.1.same2 (by simp), e7]
    show X6.2.1 12 w 10 = _
    rw [e6, u2_s]
  · rw [w9.1.same2 (by simp), e7]
    show X6.2.1 12 v 10 = _
    rw [e6, u2_i (fun z => hv z.1), g3]
  · rw [w9.1.same (by simp), e7, up_k (by decide), e6]
    show X3.1 0 0 11 = _
    exact f3 0 0 11 (by decide)
theorem sub_X {X : SS} (hX : OKS X) {p q : Int32} (a1 : ¬ (p < 0 ∨ X.1 0 0 10 ≤ p)) (a2 : ¬ (q < 0 ∨ X.1 0 0 9 ≤ q)) (a3 : f_X3_isWhole X 0 = some 1) (hw : WH (X.1 2 0) (X.1 1 0 2).toNatClampNeg) (a4 : ¬ X.1 7 q.toNatClampNeg 1 = 0) (a5 : X.1 0 0 11 < (40 : Int32)) : ok (f_X6_submit X p q) (fun r => (PASS X q.toNatClampNeg = 0 → r.2 = .inl (-1) ∧ r.1.1 0 0 11 = X.1 0 0 11 ∧ ∀ w : Nat, r.1.2.1 12 w 10 = X.2.1 12 w 10) ∧
    (¬ PASS X q.toNatClampNeg = 0 → r.2 = .inl (X.1 0 0 11) ∧ r.1.1 0 0 11 = X.1 0 0 11 + 1 ∧ ∀ w : Nat, r.1.2.1 12 w 10 = if w = (X.1 0 0 11).toNatClampNeg then SM (X.1 2 0) (X.1 3 0) (X.1 1 0 2).toNatClampNeg else X.2.1 12 w 10)) := by
  have r9 : (0 : Int32) ≤ X.1 0 0 9 ∧ X.1 0 0 9 ≤ (8 : Int32) := hX.at1 0 0 9
  have r10 : (0 : Int32) ≤ X.1 0 0 10 ∧ X.1 0 0 10 ≤ (10 : Int32) := hX.at1 0 0 10
  have r11 : (0 : Int32) ≤ X.1 0 0 11 ∧ X.1 0 0 11 ≤ (40 : Int32) := hX.at1 0 0 11
  have r7 : (0 : Int32) ≤ X.1 7 q.toNatClampNeg 1 ∧ X.1 7 q.toNatClampNeg 1 ≤ (5 : Int32) := hX.at1 7 q.toNatClampNeg 1
  unfold f_X6_submit
  rw [memberAt_in hX a1, e0_inl, kataAt_in hX a2, e0_inl, a3, b0_some, if_neg (show ¬ (1 : Int32) = 0 by decide), if_neg a4, if_pos a5]
  have hpx : ok (f_X6_passesAll X 0 q.toNatClampNeg) (fun r => r.2 = PASS X q.toNatClampNeg) := by
    unfold f_X6_passesAll
    exact px_L2 hw r7 1000 0 X (by omega) (by omega) r7.1 hX (fun _ _ _ _ _ => rfl) (fun t ht_ => absurd ht_ (by omega))
  refine ok_b1 (ok_and (w_X6_passesAll X hX 0 q.toNatClampNeg) hpx) (fun X19 v18 w => ?_)
  obtain ⟨⟨w1, -⟩, w2⟩ := w
  simp only at w1 w2
  have e11 : X19.1 0 0 11 = X.1 0 0 11 := w1.same (by simp)
  have es : ∀ v : Nat, X19.2.1 12 v 10 = X.2.1 12 v 10 := fun v => w1.same2 (by simp)
  refine ok_ite (fun z => ?_) (fun z => ?_)
  · exact ok_some ⟨fun _ => ⟨rfl, e11, es⟩, fun y => absurd (w2.symm.trans z) y⟩
  · rw [lq_e, e11]
    refine ok_lq (fun X23 e23 => ?_)
    refine ok_gd (vp_of (by decide) r11.1 (show X.1 0 0 11 < (40 : Int32) by grind)) (fun _ => ?_)
    have h23 : OKS X23 := by rw [e23]; have i : IV TT X19 (u1 X19 0 0 11 (X.1 0 0 11 + 1)) := IV.w1 w1.oks rfl trivial (show (0 : Int32) ≤ X.1 0 0 11 + 1 ∧ X.1 0 0 11 + 1 ≤ (40 : Int32) from ⟨by grind, by grind⟩); exact i.oks
    have f23 : ∀ k i p : Nat, 1 ≤ k → k ≤ 3 → X23.1 k i p = X.1 k i p := fun k i p g1 g2 => by rw [e23, up_k (by omega), w1.same (by simp; omega)]
    refine ok_b1 (bg_eq h23 (X.1 0 0 11).toNatClampNeg (p := p) (q := q) ⟨by grind, by grind⟩ ⟨by grind, by grind⟩) (fun X26 v25 w25 => ?_)
    obtain ⟨h26, s26, o26, n26⟩ := w25
    simp only at h26 s26 o26 n26
    rw [f23 1 0 2 (by omega) (by omega), show X23.1 2 0 = X.1 2 0 from funext fun a => f23 2 0 a (by omega) (by omega), show X23.1 3 0 = X.1 3 0 from funext fun a => f23 3 0 a (by omega) (by omega)] at s26
    refine ok_b1 (w_X6_makeRoom X26 h26) (fun X29 v28 w28 => ok_some ⟨fun y => absurd (w2.trans y) z, fun _ => ⟨rfl, ?_, fun v => ?_⟩⟩)
    · rw [w28.1.same (by simp), n26, e23, up_s]
    · rw [w28.1.same2 (by simp)]
      by_cases y : v = (X.1 0 0 11).toNatClampNeg
      · rw [if_pos y, y, s26]
      · rw [if_neg y, o26 v y, e23]
        exact es v
theorem sub_M {X M : SS} (hR : REL X M) {p q : Int32} (a1 : ¬ (p < 0 ∨ M.1 26 0 4 ≤ p)) (a2 : ¬ (q < 0 ∨ M.1 26 0 3 ≤ q)) (a3 : f_X7_isWhole M 40 = some 1) (hw : WH (X.1 2 0) (X.1 1 0 2).toNatClampNeg) (a4 : ¬ M.1 33 0 q.toNatClampNeg = 0) (a5 : ¬ M.1 26 0 5 = (40 : Int32)) : ok (f_X7_submit M p q) (fun r => r.1.1 26 0 9 = 0 ∧ (PASS X q.toNatClampNeg = 0 → r.2 = (-1) ∧ r.1.1 26 0 5 = M.1 26 0 5 ∧ ∀ w : Nat, r.1.2.1 41 0 w = M.2.1 41 0 w) ∧
    (¬ PASS X q.toNatClampNeg = 0 → r.2 = M.1 26 0 5 ∧ r.1.1 26 0 5 = M.1 26 0 5 + 1 ∧ ∀ w : Nat, r.1.2.1 41 0 w = if w = (M.1 26 0 5).toNatClampNeg then SM (X.1 2 0) (X.1 3 0) (X.1 1 0 2).toNatClampNeg else M.2.1 41 0 w)) := by
  have hM := hR.2.1
  have r3 : (0 : Int32) ≤ M.1 26 0 3 ∧ M.1 26 0 3 ≤ (8 : Int32) := hM.at1 26 0 3
  have r4 : (0 : Int32) ≤ M.1 26 0 4 ∧ M.1 26 0 4 ≤ (10 : Int32) := hM.at1 26 0 4
  have r5 : (0 : Int32) ≤ M.1 26 0 5 ∧ M.1 26 0 5 ≤ (40 : Int32) := hM.at1 26 0 5
  have r7 : (0 : Int32) ≤ X.1 7 q.toNatClampNeg 1 ∧ X.1 7 q.toNatClampNeg 1 ≤ (5 : Int32) := hR.1.at1 7 q.toNatClampNeg 1
  have hq8 : vp_in q 8 := vp_of (by decide) (by grind) (show q < (8 : Int32) by grind)
  have hk8 : q.toNatClampNeg < 8 := cl_lt hq8
  have eq_ : nI q.toNatClampNeg = q := cl_nI (by grind)
  unfold f_X7_submit
  rw [isMember_eq hM p, if_neg a1, b0_some, if_neg (show ¬ (1 : Int32) = 0 by decide), isKata_eq hM q, if_neg a2, b0_some, if_neg (show ¬ (1 : Int32) = 0 by decide), a3, b0_some, if_neg (show ¬ (1 : Int32) = 0 by decide)]
  refine ok_gd hq8 (fun _ => ?_)
  rw [if_neg a4, if_neg a5]
  have hpm : ok (f_X7_passes M 40 q) (fun r => r.2 = PASS X q.toNatClampNeg) := by
    unfold f_X7_passes
    have h := pm_L5 hR hk8 hw r7 1000 0 M (by omega) (by omega) r7.1 hM (fun _ _ _ _ => rfl) (fun t ht_ => absurd ht_ (by omega))
    rw [eq_] at h
    exact h
  refine ok_b1 (ok_and (w_X7_passes M hM 40 ⟨by decide, by decide⟩ q ⟨by grind, by grind⟩) hpm) (fun M20 v19 w => ?_)
  obtain ⟨⟨w1, -⟩, w2⟩ := w
  simp only at w1 w2
  have e5 : M20.1 26 0 5 = M.1 26 0 5 := w1.same (by simp)
  have es : ∀ v : Nat, M20.2.1 41 0 v = M.2.1 41 0 v := fun v => w1.same2 (by simp)
  refine ok_ite (fun z => ?_) (fun z => ?_)
  · unfold f_X7_tells
    rw [lq_e, b1_some]
    exact ok_some ⟨up_s, fun _ => ⟨rfl, by rw [up_p (by decide)]; exact e5, es⟩, fun y => absurd (w2.symm.trans z) y⟩
  · rw [lq_e, e5]
    have e := cl_nI r5.1
    have hw39 : (M.1 26 0 5).toNatClampNeg ≤ 39 := by
      have : M.1 26 0 5 ≤ nI 39 := show M.1 26 0 5 ≤ (39 : Int32) by grind
      exact cl_le this (by decide)
    generalize (M.1 26 0 5).toNatClampNeg = w0 at e hw39
    rw [← e] at e5
    rw [← e]
    refine ok_b1 (ok_and (w_X7_copies M20 w1.oks 40 ⟨by decide, by decide⟩ (nI w0) ⟨nI_pos' (by omega), (nI_leI (by omega) (by decide : (39 : Nat) < 2 ^ 31)).mpr hw39⟩) (cpf_eq w1.oks hw39)) (fun M25 v24 w => ?_)
    obtain ⟨⟨c1, -⟩, c2, c3⟩ := w
    simp only at c1 c2 c3
    have hv : vp_in (nI w0) 40 := nI_in (by omega) (by decide)
    refine ok_gd hv (fun _ => ok_lq (fun M28 e28 => ok_gd hv (fun _ => ok_lq (fun M30 e30 => ?_))))
    have h28 : OKS M28 := by rw [e28]; have i : IV TT M25 (u1 M25 39 0 w0 p) := IV.w1 c1.oks rfl trivial (show (0 : Int32) ≤ p ∧ p ≤ (9 : Int32) from ⟨by grind, by grind⟩); exact i.oks
    have h30 : OKS M30 := by rw [e30]; have i : IV TT M28 (u1 M28 40 0 w0 q) := IV.w1 h28 rfl trivial (show (0 : Int32) ≤ q ∧ q ≤ (7 : Int32) from ⟨by grind, by grind⟩); exact i.oks
    have f30 : ∀ k p : Nat, k ≠ 39 → k ≠ 40 → M30.1 k 0 p = M25.1 k 0 p := fun k p g1 g2 => by rw [e30, up_k g2, e28, up_k g1]
    obtain ⟨te, th⟩ := typed_eq hR
    have e29 : M30.1 29 0 w0 = X.1 1 0 2 := by rw [f30 29 w0 (by decide) (by decide), c2, w1.same (by simp), te]
    have e29b : M20.1 29 0 40 = X.1 1 0 2 := by rw [w1.same (by simp), te]
    have hs := sm_eq h30 (p := w0) (by omega) (pl := X.1 2 0) (pn := X.1 3 0) (fun a ha => by
      rw [e29] at ha
      have := c3 a (by rw [e29b]; exact ha)
      have t2 := th a (by rw [te]; exact ha)
      rw [f30 27 _ (by decide) (by decide), f30 28 _ (by decide) (by decide), this.1, this.2, w1.same (by simp), w1.same (by simp)]
      exact t2)
    rw [e29] at hs
    refine ok_b0e hs (ok_gd hv (fun _ => ok_lq (fun M34 e34 => ok_gd hv (fun _ => ok_lq (fun M36 e36 => ok_gd hv (fun _ => ok_lq (fun M38 e38 => ok_lq (fun M39 e39 => ?_))))))))
    have h34 : OKS M34 := by rw [e34]; have i : IV TT M30 (u2 M30 41 0 w0 (SM (X.1 2 0) (X.1 3 0) (X.1 1 0 2).toNatClampNeg)) := IV.w2 h30 trivial; exact i.oks
    have h36 : OKS M36 := by rw [e36]; have i : IV TT M34 (u1 M34 42 0 w0 (vp_nar .char (115 : Int32))) := IV.w1 h34 rfl trivial (by rw [show vp_nar .char (115 : Int32) = 115 by decide]; exact (show (0 : Int32) ≤ (115 : Int32) ∧ (115 : Int32) ≤ (65535 : Int32) from ⟨by decide, by decide⟩)); exact i.oks
    have h38 : OKS M38 := by rw [e38]; have i : IV TT M36 (u1 M36 43 0 w0 (vp_nar .boolean (1 : Int32))) := IV.w1 h36 rfl trivial (by rw [show vp_nar .boolean (1 : Int32) = 1 by decide]; exact (show (0 : Int32) ≤ (1 : Int32) ∧ (1 : Int32) ≤ (1 : Int32) from ⟨by decide, by decide⟩)); exact i.oks
    have x5 : M38.1 26 0 5 = nI w0 := by
      rw [e38, up_k (by decide), e36, up_k (by decide), e34]
      show M30.1 26 0 5 = _
      rw [f30 26 5 (by decide) (by decide), c1.same (by simp), e5]
    have s38 : ∀ v : Nat, M38.2.1 41 0 v = if v = w0 then SM (X.1 2 0) (X.1 3 0) (X.1 1 0 2).toNatClampNeg else M.2.1 41 0 v := fun v => by
      rw [e38, e36]
      show M34.2.1 41 0 v = _
      rw [e34]
      by_cases y : v = w0
      · rw [if_pos y, y, u2_s]
      · rw [if_neg y, u2_i (fun z => y z.2), e30, e28]
        show M25.2.1 41 0 v = _
        rw [c1.same2 (by simp), es]
    have r39 : nI w0 + 1 = nI (w0 + 1) := nI_1 w0
    have h39 : OKS M39 := by rw [e39, x5]; have i : IV TT M38 (u1 M38 26 0 5 (nI w0 + 1)) := IV.w1 h38 rfl trivial (show (0 : Int32) ≤ nI w0 + 1 ∧ nI w0 + 1 ≤ (40 : Int32) by rw [r39]; exact ⟨nI_pos' (by omega), (nI_leI (by omega) (by decide : (40 : Nat) < 2 ^ 31)).mpr (by omega)⟩); exact i.oks
    refine ok_b1 (ok_and (w_X7_makesRoom M39 h39) (mp_eq h39)) (fun M41 v40 w => ?_)
    obtain ⟨⟨d1, -⟩, d2⟩ := w
    simp only at d1 d2
    refine ok_ite (fun y => absurd y (by grind)) (fun _ => ?_)
    unfold f_X7_tells
    rw [lq_e, b1_some]
    refine ok_some ⟨up_s, fun y => absurd (w2.trans y) z, fun _ => ⟨rfl, ?_, fun v => ?_⟩⟩
    · rw [up_p (by decide), d1.same (by simp), e39, up_s, x5]
    · show M41.2.1 41 0 v = _
      rw [d1.same2 (by simp), e39]
      exact s38 v
theorem t_submit {X M O : SS} (hR : REL X M) (p q : Int32) : ∃ X2 O2 k M2 b, f_L_submit X O p q = some (X2, O2, k) ∧ f_X7_submit M p q = some (M2, b) ∧ REL X2 M2 ∧ AG O2 M2 k b := by
  have hX := hR.1
  have hM := hR.2.1
  obtain ⟨c1, c2, c3, c4, c5, c6⟩ := hR.2.2.1
  have hC := hR.2.2.2
  have r11 : (0 : Int32) ≤ X.1 0 0 11 ∧ X.1 0 0 11 ≤ (40 : Int32) := hX.at1 0 0 11
  by_cases a : p < 0 ∨ X.1 0 0 10 ≤ p
  · have e1 : f_L_submit X O p q = some (X, O, 1) := by
      unfold f_L_submit f_X6_submit
      rw [memberAt_no a]
      rfl
    have e2 : f_X7_submit M p q = some (u1 M 26 0 9 1, 0) := by
      unfold f_X7_submit
      rw [isMember_eq hM p, if_pos (by rw [← c5]; exact a), b0_some, if_pos rfl]
      rfl
    exact ⟨_, _, _, _, _, e1, e2, rel_fail hR 1 (by decide), up_s, fun z => absurd z (by decide)⟩
  have a' : ¬ (p < 0 ∨ M.1 26 0 4 ≤ p) := by rw [← c5]; exact a
  by_cases c : q < 0 ∨ X.1 0 0 9 ≤ q
  · have e1 : f_L_submit X O p q = some (X, O, 1) := by
      unfold f_L_submit f_X6_submit
      rw [memberAt_in hX a, e0_inl, kataAt_no c]
      rfl
    have e2 : f_X7_submit M p q = some (u1 M 26 0 9 1, 0) := by
      unfold f_X7_submit
      rw [isMember_eq hM p, if_neg a', b0_some, if_neg (show ¬ (1 : Int32) = 0 by decide), isKata_eq hM q, if_pos (by rw [← c4]; exact c), b0_some, if_pos rfl]
      rfl
    exact ⟨_, _, _, _, _, e1, e2, rel_fail hR 1 (by decide), up_s, fun z => absurd z (by decide)⟩
  have c' : ¬ (q < 0 ∨ M.1 26 0 3 ≤ q) := by rw [← c4]; exact c
  have r3 : (0 : Int32) ≤ M.1 26 0 3 ∧ M.1 26 0 3 ≤ (8 : Int32) := hM.at1 26 0 3
  have hq8 : vp_in q 8 := vp_of (by decide) (by grind) (show q < (8 : Int32) by grind)
  obtain ⟨b, w1, w2, w3, w4⟩ := whole_eq hR
  rcases w3 with b0e | b1e
  · have e1 : f_L_submit X O p q = some (X, O, 2) := by
      unfold f_L_submit f_X6_submit
      rw [memberAt_in hX a, e0_inl, kataAt_in hX c, e0_inl, w1, b0_some, if_pos b0e]
      rfl
    have e2 : f_X7_submit M p q = some (u1 M 26 0 9 2, 0) := by
      unfold f_X7_submit
      rw [isMember_eq hM p, if_neg a', b0_some, if_neg (show ¬ (1 : Int32) = 0 by decide), isKata_eq hM q, if_neg c', b0_some, if_neg (show ¬ (1 : Int32) = 0 by decide), w2, b0_some, if_pos b0e]
      rfl
    exact ⟨_, _, _, _, _, e1, e2, rel_fail hR 2 (by decide), up_s, fun z => absurd z (by decide)⟩
  have hw := w4.mp b1e
  subst b1e
  by_cases d : X.1 7 q.toNatClampNeg 1 = 0
  · have e1 : f_L_submit X O p q = some (X, O, 2) := by
      unfold f_L_submit f_X6_submit
      rw [memberAt_in hX a, e0_inl, kataAt_in hX c, e0_inl, w1, b0_some, if_neg (show ¬ (1 : Int32) = 0 by decide), if_pos d]
      rfl
    have e2 : f_X7_submit M p q = some (u1 M 26 0 9 2, 0) := by
      unfold f_X7_submit
      rw [isMember_eq hM p, if_neg a', b0_some, if_neg (show ¬ (1 : Int32) = 0 by decide), isKata_eq hM q, if_neg c', b0_some, if_neg (show ¬ (1 : Int32) = 0 by decide), w2, b0_some, if_neg (show ¬ (1 : Int32) = 0 by decide), gd_t hq8, if_pos (by rw [← c6]; exact d)]
      rfl
    exact ⟨_, _, _, _, _, e1, e2, rel_fail hR 2 (by decide), up_s, fun z => absurd z (by decide)⟩
  have d' : ¬ M.1 33 0 q.toNatClampNeg = 0 := by rw [← c6]; exact d
  have c11 : X.1 0 0 11 = M.1 26 0 5 := hC.2.2.2.1.1
  by_cases e : X.1 0 0 11 < (40 : Int32)
  · obtain ⟨⟨X29, v⟩, e1, f1, s1⟩ := ok_and (w_X6_submit X hX p q) (sub_X hX a c w1 hw d e)
    obtain ⟨⟨M48, b2⟩, e2, f2, s0, s2⟩ := ok_and (w_X7_submit M hM p q) (sub_M hR a' c' w2 hw d' (by rw [← c11]; grind))
    simp only at f1 s1 f2 s0 s2
    replace f1 := f1.1
    replace f2 := f2.1
    have hrel : CT4 X29 M48 → REL X29 M48 := fun h4 => ⟨f1.oks, f2.oks, ⟨by rw [f1.same (by simp), f2.same (by simp), c1], by rw [f1.same (by simp), f2.same (by simp), c2], by rw [f1.same (by simp), f2.same (by simp), c3], by rw [f1.same (by simp), f2.same (by simp), c4], by rw [f1.same (by simp), f2.same (by simp), c5], fun i => by rw [f1.same (by simp), f2.same (by simp), c6]⟩,
      hC.1.k (f1.same (by simp)) (fun a => f1.same (by simp)) (fun a => f1.same (by simp)) (fun a ha => f2.same (by simp; omega)) (fun a ha => f2.same (by simp; omega)),
      hC.2.1.k (f1.same (by simp)) (f1.same (by simp)) (fun a => f1.same (by simp)) (fun a => f1.same (by simp)) (fun a => f2.same (by simp)) (fun a => f2.same (by simp)),
      hC.2.2.1.k (fun t _ => f1.same (by simp)) (fun t _ => f1.same (by simp)) (fun t j _ => f1.same (by simp)) (fun t j _ => f1.same (by simp)) (fun a => f2.same (by simp)) (fun a => f2.same (by simp)) (fun a => f2.same (by simp)) (fun a => f2.same (by simp)), h4,
      hC.2.2.2.2.k (f1.same (by simp)) (f1.same (by simp)) (f1.same (by simp)) (f1.same (by simp)) (fun a => f1.same (by simp)) (f2.same (by simp)) (f2.same (by simp)) (f2.same (by simp)) (f2.same (by simp)) (fun a => f2.same (by simp))⟩
    by_cases z : PASS X q.toNatClampNeg = 0
    · obtain ⟨y1, y2, y3⟩ := s1.1 z
      obtain ⟨z1, z2, z3⟩ := s2.1 z
      subst y1
      have e1' : f_L_submit X O p q = some (X29, u2 O 56 0 0 ((-1 : Int32)).toInt64, 0) := by
        unfold f_L_submit
        rw [e1]
        rfl
      refine ⟨_, _, _, _, _, e1', e2, hrel ⟨by rw [y2, z2, c11], fun w hw2 => ?_⟩, s0, fun _ => by rw [z1]; exact u2_s⟩
      rw [y2] at hw2
      rw [y3, z3]
      exact hC.2.2.2.1.2 w hw2
    · obtain ⟨y1, y2, y3⟩ := s1.2 z
      obtain ⟨z1, z2, z3⟩ := s2.2 z
      subst y1
      have e1' : f_L_submit X O p q = some (X29, u2 O 56 0 0 (X.1 0 0 11).toInt64, 0) := by
        unfold f_L_submit
        rw [e1]
        rfl
      refine ⟨_, _, _, _, _, e1', e2, hrel ⟨by rw [y2, z2, c11], fun w hw2 => ?_⟩, s0, fun _ => by rw [z1, ← c11]; exact u2_s⟩
      rw [y2, cl_succ r11.1 (by grind)] at hw2
      rw [y3, z3, ← c11]
      by_cases y : w = (X.1 0 0 11).toNatClampNeg
      · rw [if_pos y, if_pos y]
      · rw [if_neg y, if_neg y]
        exact hC.2.2.2.1.2 w (by omega)
  · have e1 : f_L_submit X O p q = some (X, O, 3) := by
      unfold f_L_submit f_X6_submit
      rw [memberAt_in hX a, e0_inl, kataAt_in hX c, e0_inl, w1, b0_some, if_neg (show ¬ (1 : Int32) = 0 by decide), if_neg d, if_neg e]
      rfl
    have e2 : f_X7_submit M p q = some (u1 M 26 0 9 3, 0) := by
      unfold f_X7_submit
      rw [isMember_eq hM p, if_neg a', b0_some, if_neg (show ¬ (1 : Int32) = 0 by decide), isKata_eq hM q, if_neg c', b0_some, if_neg (show ¬ (1 : Int32) = 0 by decide), w2, b0_some, if_neg (show ¬ (1 : Int32) = 0 by decide), gd_t hq8, if_neg d', if_pos (by rw [← c11]; grind)]
      rfl
    exact ⟨_, _, _, _, _, e1, e2, rel_fail hR 3 (by decide), up_s, fun z => absurd z (by decide)⟩
theorem t_works {X M : SS} (hR : REL X M) : ∃ v M2 b, f_X6_works X = some v ∧ f_X7_works M = some (M2, b) ∧ REL X M2 ∧ v = b :=
  ⟨X.1 0 0 11, u1 M 26 0 9 0, M.1 26 0 5, rfl, rfl, rel_fail hR 0 (by decide), hR.2.2.2.2.2.2.1.1⟩
theorem isWork_eq {M : SS} (hM : OKS M) (p : Int32) : f_X7_isWork M p = some (if p < 0 ∨ M.1 26 0 5 ≤ p then 0 else 1) := by
  have r1 : (0 : Int32) ≤ M.1 26 0 5 ∧ M.1 26 0 5 ≤ (40 : Int32) := hM.at1 26 0 5
  unfold f_X7_isWork
  rw [in_eq]
  by_cases h : p < 0 ∨ M.1 26 0 5 ≤ p
  · rw [if_pos h, if_pos (show p < 0 ∨ M.1 26 0 5 - 1 < p by grind)]
    rw [b0_some, gd_t (okz_of (by decide) (by decide))]
  · rw [if_neg h, if_neg (show ¬ (p < 0 ∨ M.1 26 0 5 - 1 < p) by grind)]
    rw [b0_some, gd_t (okz_of (by decide) (by decide))]
theorem workAt_no {X : SS} {p : Int32} (h : p < 0 ∨ X.1 0 0 11 ≤ p) : f_X6_workAt X p = some (.inr "java/lang/IndexOutOfBoundsException") := by
  unfold f_X6_workAt
  by_cases z : p < 0
  · rw [if_pos z]
  · rw [if_neg z, if_neg (by grind)]
theorem workAt_in {X : SS} (hX : OKS X) {p : Int32} (h : ¬ (p < 0 ∨ X.1 0 0 11 ≤ p)) : f_X6_workAt X p = some (.inl p.toNatClampNeg) := by
  have r1 : (0 : Int32) ≤ X.1 0 0 11 ∧ X.1 0 0 11 ≤ (40 : Int32) := hX.at1 0 0 11
  unfold f_X6_workAt
  rw [if_neg (fun z => h (Or.inl z)), if_pos (by grind), gd_t (vp_of (by decide) (by grind) (show p < (40 : Int32) by grind))]
theorem t_sum {X M O : SS} (hR : REL X M) (p : Int32) : ∃ O2 k M2 b, f_L_sum X O p = some (O2, k) ∧ f_X7_sum M p = some (M2, b) ∧ REL X M2 ∧ (M2.1 26 0 9 = k ∧ (k = 0 → O2.2.1 56 0 0 = b)) := by
  have hX := hR.1
  have hM := hR.2.1
  have c4 := hR.2.2.2.2.2.2.1
  have r1 : (0 : Int32) ≤ M.1 26 0 5 ∧ M.1 26 0 5 ≤ (40 : Int32) := hM.at1 26 0 5
  by_cases a : p < 0 ∨ X.1 0 0 11 ≤ p
  · have e1 : f_L_sum X O p = some (O, 1) := by
      unfold f_L_sum f_X6_sum
      rw [workAt_no a]
      rfl
    have e2 : f_X7_sum M p = some (u1 M 26 0 9 1, 0) := by
      unfold f_X7_sum
      rw [isWork_eq hM p, if_pos (by rw [← c4.1]; exact a), b0_some, if_pos rfl]
      unfold f_X7_sum_J14
      rw [lq_e, up_s, if_neg (by decide)]
    exact ⟨_, _, _, _, e1, e2, rel_fail hR 1 (by decide), up_s, fun z => absurd z (by decide)⟩
  · have a' : ¬ (p < 0 ∨ M.1 26 0 5 ≤ p) := by rw [← c4.1]; exact a
    have hv : vp_in p 40 := vp_of (by decide) (by grind) (show p < (40 : Int32) by grind)
    have e1 : f_L_sum X O p = some (u2 O 56 0 0 (X.2.1 12 p.toNatClampNeg 10), 0) := by
      unfold f_L_sum f_X6_sum
      rw [workAt_in hX a]
      rfl
    have e2 : f_X7_sum M p = some (u1 M 26 0 9 0, M.2.1 41 0 p.toNatClampNeg) := by
      unfold f_X7_sum
      rw [isWork_eq hM p, if_neg a', b0_some, if_neg (by decide)]
      unfold f_X7_sum_J14
      rw [lq_e, up_s, if_pos (by decide), gd_t hv]
      rfl
    exact ⟨_, _, _, _, e1, e2, rel_fail hR 0 (by decide), up_s, fun _ => u2_s.trans (c4.2 _ (cl_mono (by grind) (by grind)))⟩
