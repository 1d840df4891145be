theorem ml_eq {B : SS} {p q : Nat} (hp : p ≤ 40) (hq : q ≤ 39) {len : Nat} (hlen : len ≤ 24) {pl pn : Nat → Int32} {ic : Int32} {inp : Nat → Int32} {ec : Int32} {exq : Nat → Int32} (hw : WH pl len) (hL : ∀ a : Nat, a < len → isL (pl a)) {P : SS × Int32 → Prop} : ∀ (n a b : Nat) (M : SS) (d : Int32) (s : Nat → Int32) (oc : Int32) (o : Nat → Int32) (dn : Int32) (kk : SS → Option (SS × Int32)), FU dn 300 n → IV AR B M → rM M (d, s, oc, o, dn, nI b, nI a) → eM M p q (nI len) pl pn ic inp ec exq → a ≤ len → b ≤ 4 → nI b ≤ ic →
    (∀ M2 σ2, rnA (nI len) ic pl pn (paC pl) inp n (d, s, oc, o, dn, nI b, nI a) = (0, σ2) → IV AR B M2 → rM M2 σ2 → eM M2 p q (nI len) pl pn ic inp ec exq → ok (kk M2) P) →
    (∀ M2 σ2 e, rnA (nI len) ic pl pn (paC pl) inp n (d, s, oc, o, dn, nI b, nI a) = (e, σ2) → ¬ e = 0 → IV AR B M2 → rM M2 σ2 → P (M2, e)) →
    ok (f_X7_runs_L20 (nI p) (nI q) n (nI a) (nI b) M kk) P := by
  intro n
  induction n with
  | zero =>
    intro a b M d s oc o dn kk hF hM hr
    have r40 : (0 : Int32) ≤ M.1 26 0 40 ∧ M.1 26 0 40 ≤ (300 : Int32) := hM.at1 26 0 40
    have e := hr.2.2.1
    simp only at e
    exact (FU.stop hF (show dn ≤ (300 : Int32) by grind)).elim
  | succ n ih =>
    intro a b M d s oc o dn kk hF hM hr he ha hb hbi hk hx
    have hcl : (nI len).toNatClampNeg = len := nI_clamp (by omega)
    have hac : (nI a).toNatClampNeg = a := nI_clamp (by omega)
    have hpc : (nI p).toNatClampNeg = p := nI_clamp (by omega)
    have hbc : (nI b).toNatClampNeg = b := nI_clamp (by omega)
    rw [f_X7_runs_L20]
    refine ok_gd (nI_in (by omega) (by decide)) (fun _ => ?_)
    rw [hpc, he.1]
    refine ok_ite (fun c => ?_) (fun c => ?_)
    · refine hk M _ ?_ hM hr he
      rw [rnA]
      exact if_pos c
    · have hal : a < len := by
        rw [nI_leI (by omega) (by omega)] at c
        omega
      have hix := ix_lin (p := p) (v := a) 24 (by decide) hp (by omega)
      have hvx : vp_in (((24 : Int32) * nI p) + nI a) 984 := by
        rw [show (24 : Int32) = nI 24 from rfl, hix.1]
        exact nI_in (by omega) (by decide)
      refine ok_gd hvx (fun _ => ?_)
      rw [lq_e, show (((24 : Int32) * nI p) + nI a).toNatClampNeg = 24 * p + a from hix.2, (he.2.1 a (by rw [hcl]; exact hal)).1]
      have hrn : rnA (nI len) ic pl pn (paC pl) inp (n + 1) (d, s, oc, o, dn, nI b, nI a) = if erA (pl a) ic d oc dn (nI b) (tpA s d) = 32 then rnA (nI len) ic pl pn (paC pl) inp n (bmp (stA (paC pl) inp (pl a) (pn a) (d, s, oc, o, dn, nI b, nI a))) else (erA (pl a) ic d oc dn (nI b) (tpA s d), (d, s, oc, o, dn, nI b, nI a)) := by
        rw [rnA]
        simp only [hac]
        exact if_neg c
      have go : ∀ v27 : Int32, ((v27 = 0 ∧ ¬ pl a = 110 ∧ ¬ pl a = 105 ∧ ¬ pl a = 100) ∨ (v27 = 1 ∧ (pl a = 110 ∨ pl a = 105 ∨ pl a = 100))) → ok (f_X7_runs_J71 (f_X7_runs_L20 (nI p) (nI q) n) kk M (pl a) (nI q) (nI b) (nI p) (nI a) v27) P := by
        intro v27 hv
        rw [j71_eq hM.oks (hL a hal) hq hr he.2.2.1 hbi hv]
        refine ok_ite (fun z => ?_) (fun z => ?_)
        · rw [if_pos z] at hrn
          obtain ⟨M9, b2, a2, e1, w1, w2, w3, w4, w5, w6⟩ := j181_eq (rc := f_X7_runs_L20 (nI p) (nI q) n) (k4 := kk) hM.oks hp hq hlen he hw hal hbi hb hr (hL a hal) hv z
          rw [e1]
          generalize stA (paC pl) inp (pl a) (pn a) (d, s, oc, o, dn, nI b, nI a) = τ at w1 w3 hrn
          obtain ⟨d', s', oc', o', t'⟩ := τ
          simp only at w3
          subst w3
          exact ih a2 b2 M9 d' s' oc' o' (dn + 1) kk (hF.step (by have := (erA_32 z).1; grind)) (hM.comp w2) w1 (eM_keep he w2) w6 w5 w4 (fun M2 σ2 y => hk M2 σ2 (hrn.trans y)) (fun M2 σ2 e y => hx M2 σ2 e (hrn.trans y))
        · rw [if_neg z] at hrn
          exact ok_some (hx M _ _ hrn (erA_range _ _ _ _ _ _ _) hM hr)
      refine ok_ite (fun c1 => ?_) (fun c1 => ?_)
      · unfold f_X7_runs_J66
        exact go 1 (Or.inr ⟨rfl, Or.inl c1⟩)
      · refine ok_ite (fun c2 => ?_) (fun c2 => ?_)
        · unfold f_X7_runs_J66
          exact go 1 (Or.inr ⟨rfl, Or.inr (Or.inl c2)⟩)
        · refine ok_ite (fun c3 => ?_) (fun c3 => ?_)
          · unfold f_X7_runs_J66
            exact go 1 (Or.inr ⟨rfl, Or.inr (Or.inr c3)⟩)
          · exact go 0 (Or.inl ⟨rfl, c1, c2, c3⟩)
theorem ver_M {M : SS} (hM : OKS M) {q : Nat} (hq : q ≤ 39) {ec : Int32} {exq : Nat → Int32} {σ : MS} (hr : rM M σ) (he : M.1 35 0 q = ec) (hx : ∀ j : Nat, j < ec.toNatClampNeg → M.1 37 0 (6 * q + j) = exq j) : (if M.1 26 0 39 = M.1 35 0 q then f_X7_runs_J394 M (nI q) 1 else f_X7_runs_J394 M (nI q) 0) = some (M, @ite _ (VER ec exq σ) (Classical.propDecidable _) 111 119) := by
  obtain ⟨a1, a2, a3, a4, a5⟩ := hr
  have r5 : (0 : Int32) ≤ M.1 26 0 39 ∧ M.1 26 0 39 ≤ (6 : Int32) := hM.at1 26 0 39
  rw [he, a2]
  unfold f_X7_runs_J394
  by_cases c : σ.2.2.1 = ec
  · rw [if_pos c]
    have stop : ∀ (n k : Nat), f_X7_runs_L399 M (nI q) (n + 1) (nI k) 0 (fun v13 => if v13 = 0 then (some (M, (119 : Int32))) else (some (M, (111 : Int32)))) = some (M, 119) := by
      intro n k
      rw [f_X7_runs_L399]
      show (if M.1 26 0 39 ≤ nI k then (if (0 : Int32) = 0 then some (M, (119 : Int32)) else some (M, 111)) else (if (0 : Int32) = 0 then (if (0 : Int32) = 0 then some (M, (119 : Int32)) else some (M, 111)) else _)) = _
      by_cases z : M.1 26 0 39 ≤ nI k
      · rw [if_pos z, if_pos rfl]
      · rw [if_neg z, if_pos rfl, if_pos rfl]
    have key : ∀ (n k : Nat), 8 ≤ k + n → k ≤ 6 → nI k ≤ σ.2.2.1 → (∀ j, j < k → σ.2.2.2.1 j = exq j) → f_X7_runs_L399 M (nI q) n (nI k) 1 (fun v13 => if v13 = 0 then (some (M, (119 : Int32))) else (some (M, (111 : Int32)))) = some (M, @ite _ (VER ec exq σ) (Classical.propDecidable _) 111 119) := by
      intro n
      induction n with
      | zero => intro k h1 h2; omega
      | succ n ih =>
        intro k h1 h2 h3 h4
        rw [f_X7_runs_L399]
        show (if M.1 26 0 39 ≤ nI k then (if (1 : Int32) = 0 then some (M, (119 : Int32)) else some (M, 111)) else _) = _
        rw [a2]
        by_cases y : σ.2.2.1 ≤ nI k
        · have e : σ.2.2.1 = nI k := by grind
          rw [if_pos y, if_neg (show ¬ (1 : Int32) = 0 by decide), if_pos (show VER ec exq σ from ⟨c, fun j hj => h4 j (by rw [e, nI_clamp (by omega)] at hj; exact hj)⟩)]
        · have hlt : nI k < σ.2.2.1 := by grind
          have hk6 : k < 6 := by
            have : nI k < nI 6 := by rw [a2] at r5; exact (by have := r5.2; show nI k < (6 : Int32); grind)
            exact (nI_ltI (by omega) (by decide)).mp this
          have hkc : k < σ.2.2.1.toNatClampNeg := by
            have := cl_mono (x := nI k) (nI_pos' (by omega)) hlt
            rw [nI_clamp (by omega)] at this
            exact this
          have hix := ix_lin (p := q) (v := k) 6 (by decide) (by omega) (by omega)
          have hvx : vp_in (((6 : Int32) * nI q) + nI k) 240 := by
            rw [show (6 : Int32) = nI 6 from rfl, hix.1]
            exact nI_in (by omega) (by decide)
          rw [if_neg y, if_neg (by decide), gd_t (show vp_in (nI k) 6 from nI_in hk6 (by decide)), gd_t hvx, nI_clamp (by omega), show (((6 : Int32) * nI q) + nI k).toNatClampNeg = 6 * q + k from hix.2, a5 k hkc, hx k (by rw [← c]; exact hkc), nI_1]
          by_cases z : σ.2.2.2.1 k = exq k
          · rw [if_pos z]
            refine ih (k + 1) (by omega) (by omega) ?_ (fun j hj => ?_)
            · rw [← nI_1]; grind
            · by_cases w : j = k
              · rw [w]; exact z
              · exact h4 j (by omega)
          · obtain ⟨n', rfl⟩ : ∃ n', n = n' + 1 := ⟨n - 1, by omega⟩
            rw [if_neg z, stop n' (k + 1), if_neg (show ¬ VER ec exq σ from fun v => z (v.2 k hkc))]
    exact key 1000 0 (by omega) (by omega) (by rw [nI_0, ← a2]; exact r5.1) (fun j hj => absurd hj (by omega))
  · rw [if_neg c, if_neg (show ¬ VER ec exq σ from fun v => c v.1)]
    rw [f_X7_runs_L399]
    show (if M.1 26 0 39 ≤ 0 then (if (0 : Int32) = 0 then some (M, (119 : Int32)) else some (M, 111)) else (if (0 : Int32) = 0 then (if (0 : Int32) = 0 then some (M, (119 : Int32)) else some (M, 111)) else _)) = _
    by_cases z : M.1 26 0 39 ≤ 0
    · rw [if_pos z, if_pos rfl]
    · rw [if_neg z, if_pos rfl, if_pos rfl]
/-- a run of the reference's machine -/
theorem rn_eq {M : SS} (hM : OKS M) {p q : Nat} (hp : p ≤ 40) (hq : q ≤ 39) {pl pn inp exq : Nat → Int32} (hw : WH pl (M.1 29 0 p).toNatClampNeg) (hL : ∀ a : Nat, a < (M.1 29 0 p).toNatClampNeg → isL (pl a)) (hpl : ∀ a : Nat, a < (M.1 29 0 p).toNatClampNeg → M.1 27 0 (24 * p + a) = pl a ∧ M.1 28 0 (24 * p + a) = pn a) (hin : ∀ j : Nat, j < (M.1 34 0 q).toNatClampNeg → M.1 36 0 (4 * q + j) = inp j) (hex : ∀ j : Nat, j < (M.1 35 0 q).toNatClampNeg → M.1 37 0 (6 * q + j) = exq j) :
    ok (f_X7_runs M (nI p) (nI q)) (fun r => IV AR M r.1 ∧ r.2 = cdA (M.1 35 0 q) exq (rnA (M.1 29 0 p) (M.1 34 0 q) pl pn (paC pl) inp 1000 ms0) ∧ rM r.1 (rnA (M.1 29 0 p) (M.1 34 0 q) pl pn (paC pl) inp 1000 ms0).2) := by
  have rl : (0 : Int32) ≤ M.1 29 0 p ∧ M.1 29 0 p ≤ (24 : Int32) := hM.at1 29 0 p
  have ri : (0 : Int32) ≤ M.1 34 0 q ∧ M.1 34 0 q ≤ (4 : Int32) := hM.at1 34 0 q
  have el := cl_nI rl.1
  have hl24 : (M.1 29 0 p).toNatClampNeg ≤ 24 := cl_le rl.2 (by decide)
  have k38 : AR 26 0 38 := Or.inr (Or.inr ⟨rfl, Or.inl rfl⟩)
  have k39 : AR 26 0 39 := Or.inr (Or.inr ⟨rfl, Or.inr (Or.inl rfl)⟩)
  have k40 : AR 26 0 40 := Or.inr (Or.inr ⟨rfl, Or.inr (Or.inr rfl)⟩)
  have i0 : IV AR M M := hM.self
  have i1 : IV AR M (u1 M 26 0 38 0) := i0.w1 rfl k38 (show (0 : Int32) ≤ (0 : Int32) ∧ (0 : Int32) ≤ (12 : Int32) from ⟨by decide, by decide⟩)
  have i2 : IV AR M (u1 (u1 M 26 0 38 0) 26 0 39 0) := i1.w1 rfl k39 (show (0 : Int32) ≤ (0 : Int32) ∧ (0 : Int32) ≤ (6 : Int32) from ⟨by decide, by decide⟩)
  have i3 : IV AR M (u1 (u1 (u1 M 26 0 38 0) 26 0 39 0) 26 0 40 0) := i2.w1 rfl k40 (show (0 : Int32) ≤ (0 : Int32) ∧ (0 : Int32) ≤ (300 : Int32) from ⟨by decide, by decide⟩)
  have z0 : ((0 : Int32)).toNatClampNeg = 0 := rfl
  unfold f_X7_runs
  rw [lq_e, lq_e, lq_e]
  have hr : rM (u1 (u1 (u1 M 26 0 38 0) 26 0 39 0) 26 0 40 0) (0, fun _ => 0, 0, fun _ => 0, 0, nI 0, nI 0) := by
    refine ⟨?_, ?_, ?_, fun j hj => ?_, fun j hj => ?_⟩
    · simp [up_e]
    · simp [up_e]
    · simp [up_e]
    · simp only [z0] at hj; omega
    · simp only [z0] at hj; omega
  have he0 : eM M p q (nI (M.1 29 0 p).toNatClampNeg) pl pn (M.1 34 0 q) inp (M.1 35 0 q) exq := ⟨el.symm, by rw [nI_clamp (by omega)]; exact hpl, rfl, hin, rfl, hex⟩
  have h9 := ml_eq (B := M) hp hq hl24 hw hL (P := fun r => IV AR M r.1 ∧ r.2 = cdA (M.1 35 0 q) exq (rnA (M.1 29 0 p) (M.1 34 0 q) pl pn (paC pl) inp 1000 ms0) ∧ rM r.1 (rnA (M.1 29 0 p) (M.1 34 0 q) pl pn (paC pl) inp 1000 ms0).2) 1000 0 0 _ 0 (fun _ => 0) 0 (fun _ => 0) 0 (fun M5 => gd (vp_in (nI q) 40) (if (M5.1 26 0 39) = (M5.1 35 0 (nI q).toNatClampNeg) then (f_X7_runs_J394 M5 (nI q) (1 : Int32)) else (f_X7_runs_J394 M5 (nI q) (0 : Int32)))) (FU.start (by decide) (by decide)) i3 hr (eM_keep he0 i3) (by omega) (by omega) (by rw [nI_0]; exact ri.1)
    (fun Y σ2 hz hI hrY heY => by
      rw [el] at hz
      rw [show (rnA (M.1 29 0 p) (M.1 34 0 q) pl pn (paC pl) inp 1000 ms0) = (0, σ2) from hz]
      refine ok_gd (nI_in (by omega) (by decide)) (fun _ => ?_)
      rw [nI_clamp (show q < 2 ^ 31 by omega), ver_M hI.oks hq hrY heY.2.2.2.2.1 heY.2.2.2.2.2]
      unfold cdA
      rw [if_pos rfl]
      exact ok_some ⟨hI, rfl, hrY⟩)
    (fun Y σ2 e hz he hI hrY => by
      rw [el] at hz
      rw [show (rnA (M.1 29 0 p) (M.1 34 0 q) pl pn (paC pl) inp 1000 ms0) = (e, σ2) from hz]
      unfold cdA
      rw [if_neg he]
      exact ⟨hI, rfl, hrY⟩)
  exact h9
/-! whole programs -/
theorem wX_eq {X : SS} (hX : OKS X) (i : Nat) : ∃ b, f_X3_isWhole X i = some b ∧ (b = 0 ∨ b = 1) ∧ (b = 1 ↔ WH (X.1 2 i) (X.1 1 i 2).toNatClampNeg) := by
  have rl : (0 : Int32) ≤ X.1 1 i 2 ∧ X.1 1 i 2 ≤ (24 : Int32) := hX.at1 1 i 2
  have el := cl_nI rl.1
  have hl24 : (X.1 1 i 2).toNatClampNeg ≤ 24 := cl_le rl.2 (by decide)
  generalize e0 : (X.1 1 i 2).toNatClampNeg = len at el hl24
  unfold f_X3_isWhole
  have key : ∀ (n k h : Nat), 25 ≤ k + n → k ≤ len → ht (X.1 2 i) k = h → (∀ j, j ≤ k → 0 ≤ ht (X.1 2 i) j) → ∃ b, f_X3_isWhole_L4 X i n (nI k) (nI h) (fun v2 => if v2 = 0 then (some (1 : Int32)) else (some (0 : Int32))) = some b ∧ (b = 0 ∨ b = 1) ∧ (b = 1 ↔ WH (X.1 2 i) len) := by
    intro n
    induction n with
    | zero => intro k h h1 h2; omega
    | succ n ih =>
      intro k h h1 h2 h3 h4
      have hle := ht_le (X.1 2 i) k
      have hs : ht (X.1 2 i) (k + 1) = ht (X.1 2 i) k + bk (X.1 2 i k) := rfl
      rw [f_X3_isWhole_L4]
      show ∃ b, (if X.1 1 i 2 ≤ nI k then (if nI h = 0 then some (1 : Int32) else some 0) else _) = some b ∧ _
      rw [← el]
      by_cases c : nI len ≤ nI k
      · rw [if_pos c]
        rw [nI_leI (by omega) (by omega)] at c
        have hk : k = len := by omega
        subst hk
        by_cases z : h = 0
        · subst z
          exact ⟨1, by rw [if_pos nI_0], Or.inr rfl, ⟨fun _ => ⟨h4, h3⟩, fun _ => rfl⟩⟩
        · exact ⟨0, by rw [if_neg (nI_ne0 (by omega) (by omega))], Or.inl rfl, ⟨fun y => absurd y (by decide), fun y => absurd y.2 (by omega)⟩⟩
      · rw [if_neg c]
        rw [nI_leI (by omega) (by omega)] at c
        have hv : vp_in (nI k) 24 := nI_in (by omega) (by decide)
        rw [gd_t hv, nI_clamp (by omega)]
        have more : (0 : Int) ≤ ht (X.1 2 i) (k + 1) → ∀ j, j ≤ k + 1 → 0 ≤ ht (X.1 2 i) j := fun z j hj => by
          by_cases y : j = k + 1
          · rw [y]; exact z
          · exact h4 j (by omega)
        by_cases c1 : X.1 2 i k = 91
        · rw [bk_o c1] at hs
          rw [if_pos c1, nI_1, if_pos (nI_pos' (by omega)), nI_1]
          exact ih (k + 1) (h + 1) (by omega) (by omega) (by omega) (more (by omega))
        · rw [if_neg c1, gd_t hv]
          by_cases c2 : X.1 2 i k = 93
          · rw [bk_c c2] at hs
            rw [if_pos c2]
            by_cases z : h = 0
            · subst z
              rw [if_neg (by decide)]
              exact ⟨0, rfl, Or.inl rfl, ⟨fun y => absurd y (by decide), fun y => absurd (y.1 (k + 1) (by omega)) (by omega)⟩⟩
            · obtain ⟨h', rfl⟩ : ∃ h', h = h' + 1 := ⟨h - 1, by omega⟩
              rw [pk_m1, if_pos (nI_pos' (by omega)), nI_1]
              exact ih (k + 1) h' (by omega) (by omega) (by omega) (more (by omega))
          · rw [bk_0 c1 c2] at hs
            rw [if_neg c2, if_pos (nI_pos' (by omega)), nI_1]
            exact ih (k + 1) h (by omega) (by omega) (by omega) (more (by omega))
  exact key 1000 0 0 (by omega) (by omega) rfl (fun j hj => by have : j = 0 := (by omega); subst this; exact Int.le_refl _)
theorem wM_eq {M : SS} (hM : OKS M) {p : Nat} (hp : p ≤ 40) {pl : Nat → Int32} (hpl : ∀ a : Nat, a < (M.1 29 0 p).toNatClampNeg → M.1 27 0 (24 * p + a) = pl a) : ∃ b, f_X7_isWhole M (nI p) = some b ∧ (b = 0 ∨ b = 1) ∧ (b = 1 ↔ WH pl (M.1 29 0 p).toNatClampNeg) := by
  have rl : (0 : Int32) ≤ M.1 29 0 p ∧ M.1 29 0 p ≤ (24 : Int32) := hM.at1 29 0 p
  have el := cl_nI rl.1
  have hl24 : (M.1 29 0 p).toNatClampNeg ≤ 24 := cl_le rl.2 (by decide)
  generalize e0 : (M.1 29 0 p).toNatClampNeg = len at el hl24 hpl
  have hpc : (nI p).toNatClampNeg = p := nI_clamp (by omega)
  unfold f_X7_isWhole
  -- the answer when a height was below 0
  have low : ∀ (n k : Nat) (op : Int32), 25 ≤ k + n → k ≤ len → f_X7_isWhole_L7 (nI p) M n (nI k) 0 op (fun v2 v3 => if v2 = 0 then (some (0 : Int32)) else (if v3 = 0 then (some (1 : Int32)) else (some (0 : Int32)))) = some 0 := by
    intro n
    induction n with
    | zero => intro k op h1 h2; omega
    | succ n ih =>
      intro k op h1 h2
      rw [f_X7_isWhole_L7]
      show gd (vp_in (nI p) 41) (if M.1 29 0 (nI p).toNatClampNeg ≤ nI k then (if (0 : Int32) = 0 then some (0 : Int32) else _) else _) = _
      rw [gd_t (show vp_in _ _ from nI_in (by omega) (by decide)), hpc, ← el]
      by_cases c : nI len ≤ nI k
      · rw [if_pos c, if_pos rfl]
      · rw [if_neg c]
        rw [nI_leI (by omega) (by omega)] at c
        have hix := ix_lin (p := p) (v := k) 24 (by decide) hp (by omega)
        have hvx : vp_in (((24 : Int32) * nI p) + nI k) 984 := by
          rw [show (24 : Int32) = nI 24 from rfl, hix.1]
          exact nI_in (by omega) (by decide)
        have rec_ : ∀ v12 : Int32, f_X7_isWhole_J62 (f_X7_isWhole_L7 (nI p) M n) (fun v2 v3 => if v2 = 0 then (some (0 : Int32)) else (if v3 = 0 then (some (1 : Int32)) else (some (0 : Int32)))) op 0 (nI k) v12 = some 0 := by
          intro v12
          unfold f_X7_isWhole_J62
          rw [lq_e, if_pos rfl, nI_1]
          exact ih (k + 1) _ (by omega) (by omega)
        rw [gd_t hvx]
        split
        · exact rec_ _
        · rw [gd_t hvx]
          split
          · exact rec_ _
          · exact rec_ _
  have key : ∀ (n k h : Nat), 25 ≤ k + n → k ≤ len → ht pl k = h → (∀ j, j ≤ k → 0 ≤ ht pl j) → ∃ b, f_X7_isWhole_L7 (nI p) M n (nI k) 1 (nI h) (fun v2 v3 => if v2 = 0 then (some (0 : Int32)) else (if v3 = 0 then (some (1 : Int32)) else (some (0 : Int32)))) = some b ∧ (b = 0 ∨ b = 1) ∧ (b = 1 ↔ WH pl len) := by
    intro n
    induction n with
    | zero => intro k h h1 h2; omega
    | succ n ih =>
      intro k h h1 h2 h3 h4
      have hle := ht_le pl k
      have hs : ht pl (k + 1) = ht pl k + bk (pl k) := rfl
      rw [f_X7_isWhole_L7]
      show ∃ b, gd (vp_in (nI p) 41) (if M.1 29 0 (nI p).toNatClampNeg ≤ nI k then (if (1 : Int32) = 0 then some (0 : Int32) else (if nI h = 0 then some 1 else some 0)) else _) = some b ∧ _
      rw [gd_t (show vp_in _ _ from nI_in (by omega) (by decide)), hpc, ← el]
      by_cases c : nI len ≤ nI k
      · rw [if_pos c, if_neg (by decide)]
        rw [nI_leI (by omega) (by omega)] at c
        have hk : k = len := by omega
        subst hk
        by_cases z : h = 0
        · subst z
          exact ⟨1, by rw [if_pos nI_0], Or.inr rfl, ⟨fun _ => ⟨h4, h3⟩, fun _ => rfl⟩⟩
        · exact ⟨0, by rw [if_neg (nI_ne0 (by omega) (by omega))], Or.inl rfl, ⟨fun y => absurd y (by decide), fun y => absurd y.2 (by omega)⟩⟩
      · rw [if_neg c]
        rw [nI_leI (by omega) (by omega)] at c
        have hix := ix_lin (p := p) (v := k) 24 (by decide) hp (by omega)
        have hvx : vp_in (((24 : Int32) * nI p) + nI k) 984 := by
          rw [show (24 : Int32) = nI 24 from rfl, hix.1]
          exact nI_in (by omega) (by decide)
        have more : (0 : Int) ≤ ht pl (k + 1) → ∀ j, j ≤ k + 1 → 0 ≤ ht pl j := fun z j hj => by
          by_cases y : j = k + 1
          · rw [y]; exact z
          · exact h4 j (by omega)
        rw [gd_t hvx, show (((24 : Int32) * nI p) + nI k).toNatClampNeg = 24 * p + k from hix.2, hpl k (by omega)]
        by_cases c1 : pl k = 91
        · rw [bk_o c1] at hs
          rw [if_pos c1]
          unfold f_X7_isWhole_J62
          rw [lq_e, if_neg (by decide), nI_1, if_neg (nI_pos (by omega)), nI_1]
          exact ih (k + 1) (h + 1) (by omega) (by omega) (by omega) (more (by omega))
        · rw [if_neg c1, gd_t hvx]
          by_cases c2 : pl k = 93
          · rw [bk_c c2] at hs
            rw [if_pos c2]
            unfold f_X7_isWhole_J62
            rw [lq_e, if_neg (by decide)]
            by_cases z : h = 0
            · subst z
              rw [if_pos (by decide), nI_1, low n (k + 1) _ (by omega) (by omega)]
              exact ⟨0, rfl, Or.inl rfl, ⟨fun y => absurd y (by decide), fun y => absurd (y.1 (k + 1) (by omega)) (by omega)⟩⟩
            · obtain ⟨h', rfl⟩ : ∃ h', h = h' + 1 := ⟨h - 1, by omega⟩
              rw [pk_m1, if_neg (nI_pos (by omega)), nI_1]
              exact ih (k + 1) h' (by omega) (by omega) (by omega) (more (by omega))
          · rw [bk_0 c1 c2] at hs
            rw [if_neg c2]
            unfold f_X7_isWhole_J62
            rw [lq_e, if_neg (by decide), Int32.add_zero, if_neg (nI_pos (by omega)), nI_1]
            exact ih (k + 1) h (by omega) (by omega) (by omega) (more (by omega))
  exact key 1000 0 0 (by omega) (by omega) rfl (fun j hj => by have : j = 0 := (by omega); subst this; exact Int.le_refl _)
