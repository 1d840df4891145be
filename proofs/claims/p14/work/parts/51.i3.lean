theorem stA_dn (pa inp : Nat → Int32) (c m : Int32) (σ : MS) : (stA pa inp c m σ).2.2.2.2.1 = σ.2.2.2.2.1 := by
  obtain ⟨d, s, oc, o, dn, rd, at_⟩ := σ
  simp only [stA]
  split
  · rfl
  · split
    · rfl
    · split
      · rfl
      · split
        · rfl
        · split
          · rfl
          · split
            · rfl
            · split
              · rfl
              · split
                · rfl
                · split <;> rfl
/-- cells that a run of machine i0 may change -/
def AM (i0 : Nat) : Nat → Nat → Nat → Prop := fun k i p => (k = 16 ∨ k = 17 ∨ k = 18) ∧ i = i0
theorem xl_eq {B : SS} (i0 i1 i2 : Nat) {len : Int32} {pl pn : Nat → Int32} {ic : Int32} {inp : Nat → Int32} {ec : Int32} {exq : Nat → Int32} (hw : WH pl len.toNatClampNeg) (hlen : len ≤ 24) {P : SS × Int32 → Prop} : ∀ (n : Nat) (X : SS) (σ : MS) (kk : SS → Option (SS × Int32)), FU σ.2.2.2.2.1 300 n → IV (AM i0) B X → rX X i0 σ → eX X i0 i1 i2 len pl pn ic inp ec exq → 0 ≤ σ.2.2.2.2.1 → σ.2.2.2.2.1 ≤ 300 →
    (∀ X2 σ2, rnA len ic pl pn (paC pl) inp n σ = (0, σ2) → IV (AM i0) B X2 → rX X2 i0 σ2 → eX X2 i0 i1 i2 len pl pn ic inp ec exq → ok (kk X2) P) →
    (∀ X2 σ2 e, rnA len ic pl pn (paC pl) inp n σ = (e, σ2) → ¬ e = 0 → IV (AM i0) B X2 → rX X2 i0 σ2 → P (X2, e)) →
    ok (f_X1_execute_L32 i1 i0 i2 n σ.2.2.2.2.1 X kk) P := by
  intro n
  induction n with
  | zero => intro X σ kk hF hX hr he h0 h1; exact (FU.stop hF (show σ.2.2.2.2.1 ≤ (300 : Int32) from h1)).elim
  | succ n ih =>
    intro X σ kk hF hX hr he h0 h1 hk hq
    obtain ⟨d, s, oc, o, dn, rd, at_⟩ := σ
    simp only at hF h0 h1
    have hr0 := hr
    obtain ⟨a1, a2, a3, a4, a5, a6, a7⟩ := hr0
    simp only at a1 a2 a3 a4 a5 a6 a7
    obtain ⟨y1, y2, y3, y4, y5, y6, y7⟩ := he
    have r8 : (0 : Int32) ≤ X.1 16 i0 8 ∧ X.1 16 i0 8 ≤ (24 : Int32) := hX.at1 16 i0 8
    have rl : (0 : Int32) ≤ X.1 1 i1 2 ∧ X.1 1 i1 2 ≤ (24 : Int32) := hX.at1 1 i1 2
    rw [f_X1_execute_L32]
    refine ok_ite (fun c => absurd c (by grind)) (fun _ => ?_)
    refine ok_ite (fun c => ?_) (fun c => ?_)
    · refine hk X (d, s, oc, o, dn, rd, at_) ?_ hX hr ⟨y1, y2, y3, y4, y5, y6, y7⟩
      rw [rnA]
      exact if_pos (by rw [y1, a5] at c; exact c)
    · have hlt : at_ < len := by rw [y1, a5] at c; grind
      have hv8 : vp_in (X.1 16 i0 8) 24 := vp_of (by decide) r8.1 (show X.1 16 i0 8 < (24 : Int32) by grind)
      have hpl := y2 at_.toNatClampNeg (cl_mono (by grind) hlt)
      refine ok_gd hv8 (fun _ => ok_lq (fun c0 e0 => ?_))
      rw [a5, hpl.1] at e0
      have her := er_eq hX.oks i0 i2 c0 hr
      rw [y4] at her
      simp only at her
      refine ok_b0e her ?_
      have hrn : rnA len ic pl pn (paC pl) inp (n + 1) (d, s, oc, o, dn, rd, at_) = if erA c0 ic d oc dn rd (tpA s d) = 32 then rnA len ic pl pn (paC pl) inp n (bmp (stA (paC pl) inp c0 (pn at_.toNatClampNeg) (d, s, oc, o, dn, rd, at_))) else (erA c0 ic d oc dn rd (tpA s d), (d, s, oc, o, dn, rd, at_)) := by
        rw [rnA, e0]
        exact if_neg (show ¬ len ≤ at_ by grind)
      refine ok_ite (fun q => ?_) (fun q => ?_)
      · refine ok_gd hv8 (fun _ => ?_)
        rw [if_pos q] at hrn
        rw [a5, hpl.2]
        have p1 := ps_eq hX.oks i0 i1 i2 (pn at_.toNatClampNeg) hr ⟨y1, y2, y3, y4, y5, y6, y7⟩ hw hlen hlt e0 q
        have rc0 : (0 : Int32) ≤ c0 ∧ c0 ≤ (65535 : Int32) := by
          have := hX.at1 2 i1 at_.toNatClampNeg
          rw [hpl.1, ← e0] at this
          exact this
        have p2 := s_X1_perform (A := AM i0) (B := B) X hX i0 c0 rc0 (pn at_.toNatClampNeg) i2 (show X.1 16 i0 8 < (24 : Int32) by grind) ⟨Or.inl rfl, rfl⟩ ⟨Or.inl rfl, rfl⟩ ⟨Or.inl rfl, rfl⟩ ⟨Or.inl rfl, rfl⟩ (fun _ => ⟨Or.inr (Or.inl rfl), rfl⟩) (fun _ => ⟨Or.inr (Or.inr rfl), rfl⟩)
        have p3 := s_X1_perform (A := AM i0) (B := X) X hX.self i0 c0 rc0 (pn at_.toNatClampNeg) i2 (show X.1 16 i0 8 < (24 : Int32) by grind) ⟨Or.inl rfl, rfl⟩ ⟨Or.inl rfl, rfl⟩ ⟨Or.inl rfl, rfl⟩ ⟨Or.inl rfl, rfl⟩ (fun _ => ⟨Or.inr (Or.inl rfl), rfl⟩) (fun _ => ⟨Or.inr (Or.inr rfl), rfl⟩)
        refine ok_b1 (ok_and p1 (ok_and p2 p3)) (fun X25 v24 w => ok_lq (fun X27 e27 => ?_))
        obtain ⟨w1, w2, w3⟩ := w
        have hX27 : IV (AM i0) B X27 := by rw [e27]; exact w2.1.w1f rfl ⟨Or.inl rfl, rfl⟩ rfl
        generalize hσ : stA (paC pl) inp c0 (pn at_.toNatClampNeg) (d, s, oc, o, dn, rd, at_) = τ at w1 hrn
        have hdn : τ.2.2.2.2.1 = dn := by
          rw [← hσ, stA_dn]
        have hr27 : rX X27 i0 (bmp τ) := by
          obtain ⟨b1, b2, b3, b4, b5, b6, b7⟩ := w1
          simp only at b1 b2 b3 b4 b5 b6 b7
          refine ⟨?_, ?_, ?_, ?_, ?_, fun j hj => ?_, fun j hj => ?_⟩
          · rw [e27]; simp [up_e, bmp, b1]
          · rw [e27]; simp [up_e, bmp, b2]
          · rw [e27]; simp [up_e, bmp, b3]
          · rw [e27]; simp [up_e, bmp, b4]
          · rw [e27]; simp [up_e, bmp, b5]
          · rw [e27]; simp [up_e, bmp]
            exact b6 j hj
          · rw [e27]; simp [up_e, bmp]
            exact b7 j hj
        have he27 : eX X27 i0 i1 i2 len pl pn ic inp ec exq := by
          refine eX_keep (X := X) ⟨y1, y2, y3, y4, y5, y6, y7⟩ (fun k i p z1 z2 z3 => ?_)
          rw [e27, up_k z1]
          exact w3.1.same (fun z => z.1.elim z1 (fun z => z.elim z2 z3))
        have hdl : dn < 300 := (erA_32 q).1
        have ebd : (bmp τ).2.2.2.2.1 = dn + 1 := by rw [← hdn]; rfl
        have h7 := ih X27 (bmp τ) kk (by rw [ebd]; exact hF.step (by grind)) hX27 hr27 he27 (by rw [ebd]; grind) (by rw [ebd]; grind) (fun X2 σ2 z => hk X2 σ2 (hrn.trans z)) (fun X2 σ2 e z => hq X2 σ2 e (hrn.trans z))
        rw [ebd] at h7
        exact h7
      · rw [if_neg q] at hrn
        have hrange := erA_range c0 ic d oc dn rd (tpA s d)
        have r255 : (0 : Int32) ≤ erA c0 ic d oc dn rd (tpA s d) ∧ erA c0 ic d oc dn rd (tpA s d) ≤ (65535 : Int32) := by
          unfold erA
          repeat' split
          all_goals decide
        exact ok_gd (okc_of r255.1 r255.2) (fun _ => ok_some (hq X _ _ hrn hrange hX hr))
/-- the class's stack of open brackets -/
def PI (pl : Nat → Int32) (i0 i1 : Nat) (len : Nat) (k : Nat) (X : SS) : Prop := X.1 1 i1 2 = nI len ∧ (∀ a, a < len → X.1 2 i1 a = pl a) ∧
  (∀ t : Nat, (t : Int) < ht pl k → ∃ p, p < k ∧ X.1 20 i0 t = nI p ∧ pl p = 91 ∧ ht pl p = t ∧ ∀ j, p < j → j ≤ k → (t : Int) < ht pl j) ∧
  ∀ a c, c < k → MT pl a c → X.1 19 i0 a = nI c ∧ X.1 19 i0 c = nI a
theorem pb_L {pl : Nat → Int32} (i0 i1 : Nat) {len : Nat} (hl : len ≤ 24) (hw : WH pl len) {P : SS × Unit → Prop} : ∀ (n k h : Nat) (X : SS) (kk : SS → Option (SS × Unit)), 25 ≤ k + n → k ≤ len → ht pl k = h → PI pl i0 i1 len k X → (∀ X2, PI pl i0 i1 len len X2 → ok (kk X2) P) → ok (f_X1_pairBrackets_L4 i1 i0 n (nI k) (nI h) X kk) P := by
  intro n
  induction n with
  | zero => intro k h X kk hF hk; omega
  | succ n ih =>
    intro k h X kk hF hk hh hp hkk
    obtain ⟨p1, p2, p3, p4⟩ := hp
    have hhl := ht_le pl k
    rw [f_X1_pairBrackets_L4]
    refine ok_ite (fun c => ?_) (fun c => ?_)
    · rw [p1, nI_leI (by omega) (by omega)] at c
      have : k = len := by omega
      subst this
      exact hkk X ⟨p1, p2, p3, p4⟩
    · rw [p1, nI_leI (by omega) (by omega)] at c
      have hklt : k < len := by omega
      have hv : vp_in (nI k) 24 := nI_in (by omega) (by decide)
      refine ok_gd hv (fun _ => ok_lq (fun X8 e8 => ok_gd hv (fun _ => ?_)))
      rw [nI_clamp (by omega)] at e8 ⊢
      have c2 : ∀ a, X8.1 2 i1 a = X.1 2 i1 a := fun a => by rw [e8, up_k (by decide)]
      have c1 : X8.1 1 i1 2 = nI len := by rw [e8, up_k (by decide), p1]
      have c20 : ∀ a, X8.1 20 i0 a = X.1 20 i0 a := fun a => by rw [e8, up_k (by decide)]
      have c19 : ∀ a, a ≠ k → X8.1 19 i0 a = X.1 19 i0 a := fun a ha => by rw [e8, up_p ha]
      rw [c2, p2 k hklt]
      have hs : ht pl (k + 1) = ht pl k + bk (pl k) := rfl
      have old : ∀ a c, c < k → MT pl a c → X8.1 19 i0 a = nI c ∧ X8.1 19 i0 c = nI a := fun a c hc hm => by
        rw [c19 a (by have := hm.1; omega), c19 c (by omega)]
        exact p4 a c hc hm
      refine ok_ite (fun q => ?_) (fun q => ?_)
      · have hv4 : vp_in (nI h) 24 := nI_in (by omega) (by decide)
        refine ok_gd hv4 (fun _ => ok_lq (fun X21 e21 => ?_))
        rw [nI_clamp (by omega)] at e21
        rw [nI_1, nI_1]
        rw [bk_o q] at hs
        refine ih (k + 1) (h + 1) X21 kk (by omega) (by omega) (by omega) ⟨?_, fun a ha => ?_, fun t ht_ => ?_, fun a c hc hm => ?_⟩ hkk
        · rw [e21, up_k (by decide), c1]
        · rw [e21, up_k (by decide), c2, p2 a ha]
        · by_cases z : t = h
          · refine ⟨k, by omega, by rw [e21, z, up_s], q, by omega, fun j hj hj2 => ?_⟩
            have : j = k + 1 := by omega
            subst this
            omega
          · obtain ⟨p, b1, b2, b3, b4, b5⟩ := p3 t (by omega)
            refine ⟨p, by omega, by rw [e21, up_p z, c20, b2], b3, b4, fun j hj hj2 => ?_⟩
            by_cases y : j = k + 1
            · subst y; omega
            · exact b5 j hj (by omega)
        · have hck : c ≠ k := by
            intro z
            have := hm.2.2.2.2
            rw [z, q] at this
            exact absurd this (by decide)
          have := old a c (by omega) hm
          rw [e21, up_k (by decide), up_k (by decide)]
          exact this
      · refine ok_gd hv (fun _ => ?_)
        refine ok_ite (fun q2 => ?_) (fun q2 => ?_)
        · rw [bk_c q2] at hs
          have hge := hw.1 (k + 1) (by omega)
          obtain ⟨h', rfl⟩ : ∃ h', h = h' + 1 := ⟨h - 1, by omega⟩
          refine ok_ite (fun z => absurd z (nI_nle (by omega) (by omega))) (fun _ => ?_)
          rw [pk_m1]
          have hv4 : vp_in (nI h') 24 := nI_in (by omega) (by decide)
          obtain ⟨p, b1, b2, b3, b4, b5⟩ := p3 h' (by omega)
          refine ok_gd hv4 (fun _ => ok_gd hv (fun _ => ok_lq (fun X16 e16 => ok_gd hv4 (fun _ => ?_))))
          rw [nI_clamp (show h' < 2 ^ 31 by omega)] at e16 ⊢
          rw [c20, b2] at e16
          have e20 : X16.1 20 i0 h' = nI p := by rw [e16, up_k (by decide), c20, b2]
          rw [e20]
          refine ok_gd (nI_in (by omega) (by decide)) (fun _ => ok_lq (fun X19 e19 => ?_))
          rw [nI_clamp (show p < 2 ^ 31 by omega)] at e19
          rw [nI_1]
          have hm0 : MT pl p k := ⟨b1, by omega, fun j hj hj2 => by have := b5 j hj hj2; omega, b3, q2⟩
          refine ih (k + 1) h' X19 kk (by omega) (by omega) (by omega) ⟨?_, fun a ha => ?_, fun t ht_ => ?_, fun a c hc hm => ?_⟩ hkk
          · rw [e19, up_k (by decide), e16, up_k (by decide), c1]
          · rw [e19, up_k (by decide), e16, up_k (by decide), c2, p2 a ha]
          · obtain ⟨p', d1, d2, d3, d4, d5⟩ := p3 t (by omega)
            refine ⟨p', by omega, by rw [e19, up_k (by decide), e16, up_k (by decide), c20, d2], d3, d4, fun j hj hj2 => ?_⟩
            by_cases y : j = k + 1
            · subst y; omega
            · exact d5 j hj (by omega)
          · by_cases z : c = k
            · rw [z] at hm ⊢
              have ea : a = p := MT_left hm hm0
              rw [ea]
              have hne : p ≠ k := by omega
              exact ⟨by rw [e19, up_s], by rw [e19, up_p (fun z => hne z.symm), e16, up_s]⟩
            · have hcp : c ≠ p := by
                intro y
                have := hm.2.2.2.2
                rw [y, b3] at this
                exact absurd this (by decide)
              have hap : a ≠ p := by
                intro y
                subst y
                exact z (MT_right hm hm0)
              have hak : a ≠ k := by have := hm.1; omega
              rw [e19, up_p hap, up_p hcp, e16, up_p hak, up_p z]
              exact old a c (by omega) hm
        · rw [bk_0 q q2] at hs
          rw [nI_1]
          refine ih (k + 1) h X8 kk (by omega) (by omega) (by omega) ⟨c1, fun a ha => by rw [c2, p2 a ha], fun t ht_ => ?_, fun a c hc hm => ?_⟩ hkk
          · obtain ⟨p', d1, d2, d3, d4, d5⟩ := p3 t (by omega)
            refine ⟨p', by omega, by rw [c20, d2], d3, d4, fun j hj hj2 => ?_⟩
            by_cases y : j = k + 1
            · subst y; omega
            · exact d5 j hj (by omega)
          · have hck : c ≠ k := by
              intro z
              have := hm.2.2.2.2
              rw [z] at this
              exact q2 this
            exact old a c (by omega) hm
theorem ver_X {X : SS} (hX : OKS X) (i i2 : Nat) {ec : Int32} {exq : Nat → Int32} {σ : MS} (hr : rX X i σ) (he : X.1 4 i2 3 = ec) (hq : ∀ j : Nat, j < ec.toNatClampNeg → X.1 6 i2 j = exq j) : f_X1_isAsExpected X i i2 = some (@ite _ (VER ec exq σ) (Classical.propDecidable _) 1 0) := by
  obtain ⟨a1, a2, a3, a4, a5, a6, a7⟩ := hr
  have r5 : (0 : Int32) ≤ X.1 16 i 5 ∧ X.1 16 i 5 ≤ (6 : Int32) := hX.at1 16 i 5
  unfold f_X1_isAsExpected
  rw [he, a2]
  by_cases c : σ.2.2.1 = ec
  · rw [if_pos c]
    have key : ∀ (n k : Nat), 7 ≤ k + n → k ≤ 6 → nI k ≤ σ.2.2.1 → (∀ j, j < k → σ.2.2.2.1 j = exq j) → f_X1_isAsExpected_L15 X i i2 n (nI k) (fun _ => some 1) = some (@ite _ (VER ec exq σ) (Classical.propDecidable _) 1 0) := by
      intro n
      induction n with
      | zero => intro k h1 h2; omega
      | succ n ih =>
        intro k h1 h2 h3 h4
        rw [f_X1_isAsExpected_L15]
        show (if X.1 16 i 5 ≤ nI k then some (1 : Int32) else _) = _
        rw [a2]
        by_cases q : σ.2.2.1 ≤ nI k
        · have e : σ.2.2.1 = nI k := by grind
          rw [if_pos q, if_pos ⟨c, fun j hj => h4 j (by rw [e, nI_clamp (by omega)] at hj; exact hj)⟩]
        · have hlt : nI k < σ.2.2.1 := by grind
          have hk6 : k < 6 := by
            have : nI k < nI 6 := by rw [a2] at r5; exact (by have := r5.2; show nI k < (6 : Int32); grind)
            exact (nI_ltI (by omega) (by decide)).mp this
          have hv : vp_in (nI k) 6 := nI_in hk6 (by decide)
          have hkc : k < σ.2.2.1.toNatClampNeg := by
            have := cl_mono (x := nI k) (nI_pos' (by omega)) hlt
            rw [nI_clamp (by omega)] at this
            exact this
          rw [if_neg q, gd_t hv, gd_t hv, nI_clamp (by omega), a7 k hkc, hq k (by rw [← c]; exact hkc), nI_1]
          by_cases z : σ.2.2.2.1 k = exq k
          · rw [if_pos z]
            refine ih (k + 1) (by omega) (by omega) ?_ (fun j hj => ?_)
            · rw [← nI_1]; grind
            · by_cases y : j = k
              · rw [y]; exact z
              · exact h4 j (by omega)
          · rw [if_neg z, if_neg (fun v => z (v.2 k hkc))]
    exact key 1000 0 (by omega) (by omega) (by rw [nI_0, ← a2]; exact r5.1) (fun j hj => absurd hj (by omega))
  · rw [if_neg c, if_neg (fun v => c v.1)]
/-- a run of the class's machine -/
theorem ex_eq {X : SS} (hX : OKS X) (i0 i1 i2 : Nat) (hw : WH (X.1 2 i1) (X.1 1 i1 2).toNatClampNeg) {pl pn : Nat → Int32} {inp exq : Nat → Int32} (hpl : ∀ a : Nat, a < (X.1 1 i1 2).toNatClampNeg → X.1 2 i1 a = pl a ∧ X.1 3 i1 a = pn a) (hin : ∀ j : Nat, j < (X.1 4 i2 2).toNatClampNeg → X.1 5 i2 j = inp j) (hex : ∀ j : Nat, j < (X.1 4 i2 3).toNatClampNeg → X.1 6 i2 j = exq j) :
    ok (f_X1_execute X i0 i1 i2) (fun r => r.2 = cdA (X.1 4 i2 3) exq (rnA (X.1 1 i1 2) (X.1 4 i2 2) pl pn (paC pl) inp 1000 ms0) ∧ rX r.1 i0 (rnA (X.1 1 i1 2) (X.1 4 i2 2) pl pn (paC pl) inp 1000 ms0).2) := by
  have rl : (0 : Int32) ≤ X.1 1 i1 2 ∧ X.1 1 i1 2 ≤ (24 : Int32) := hX.at1 1 i1 2
  have hw2 : WH pl (X.1 1 i1 2).toNatClampNeg := WH_cong (fun a ha => (hpl a ha).1) hw
  have hl24 : (X.1 1 i1 2).toNatClampNeg ≤ 24 := cl_le rl.2 (by decide)
  unfold f_X1_execute
  have s1 := s_X1_pairBrackets (A := fun k i _ => (k = 19 ∨ k = 20) ∧ i = i0) (B := X) X hX.self i0 i1 (fun _ => ⟨Or.inl rfl, rfl⟩) (fun _ => ⟨Or.inr rfl, rfl⟩)
  have s2 : ok (f_X1_pairBrackets X i0 i1) (fun r => PI pl i0 i1 (X.1 1 i1 2).toNatClampNeg (X.1 1 i1 2).toNatClampNeg r.1) := by
    unfold f_X1_pairBrackets
    refine pb_L i0 i1 hl24 hw2 1000 0 0 X _ (by omega) (by omega) rfl ⟨(cl_nI rl.1).symm, fun a ha => (hpl a ha).1, fun t ht_ => absurd ht_ (by show ¬ (t : Int) < 0; omega), fun a c hc => absurd hc (by omega)⟩ (fun X2 hp => ok_some hp)
  refine ok_b1 (ok_and s1 s2) (fun X2 v1 w => ?_)
  obtain ⟨⟨w1, -⟩, w2⟩ := w
  simp only at w1 w2
  refine ok_lq (fun X4 e4 => ok_lq (fun X5 e5 => ok_lq (fun X6 e6 => ok_lq (fun X7 e7 => ok_lq (fun X8 e8 => ?_)))))
  have k0 : IV (AM i0) X2 X2 := w1.self
  have k4 : IV (AM i0) X2 X4 := by rw [e4]; exact k0.w1 rfl ⟨Or.inl rfl, rfl⟩ (show (0 : Int32) ≤ (0 : Int32) ∧ (0 : Int32) ≤ (12 : Int32) from ⟨by decide, by decide⟩)
  have k5 : IV (AM i0) X2 X5 := by rw [e5]; exact k4.w1 rfl ⟨Or.inl rfl, rfl⟩ (show (0 : Int32) ≤ (0 : Int32) ∧ (0 : Int32) ≤ (6 : Int32) from ⟨by decide, by decide⟩)
  have k6 : IV (AM i0) X2 X6 := by rw [e6]; exact k5.w1f rfl ⟨Or.inl rfl, rfl⟩ rfl
  have k7 : IV (AM i0) X2 X7 := by rw [e7]; exact k6.w1 rfl ⟨Or.inl rfl, rfl⟩ (show (0 : Int32) ≤ (0 : Int32) ∧ (0 : Int32) ≤ (4 : Int32) from ⟨by decide, by decide⟩)
  have k8 : IV (AM i0) X2 X8 := by rw [e8]; exact k7.w1 rfl ⟨Or.inl rfl, rfl⟩ (show (0 : Int32) ≤ (0 : Int32) ∧ (0 : Int32) ≤ (24 : Int32) from ⟨by decide, by decide⟩)
  have z0 : ((0 : Int32)).toNatClampNeg = 0 := rfl
  have hr8 : rX X8 i0 ms0 := by
    refine ⟨?_, ?_, ?_, ?_, ?_, fun j hj => ?_, fun j hj => ?_⟩
    · rw [e8, e7, e6, e5, e4]; simp [up_e, ms0]
    · rw [e8, e7, e6, e5, e4]; simp [up_e, ms0]
    · rw [e8, e7, e6, e5, e4]; simp [up_e, ms0]
    · rw [e8, e7, e6, e5, e4]; simp [up_e, ms0]
    · rw [e8, e7, e6, e5, e4]; simp [up_e, ms0]
    · simp only [ms0, z0] at hj; omega
    · simp only [ms0, z0] at hj; omega
  have f1 : ∀ k i p, k ≠ 16 → k ≠ 17 → k ≠ 18 → k ≠ 19 → k ≠ 20 → X8.1 k i p = X.1 k i p := fun k i p y1 y2 y3 y4 y5 => by
    rw [k8.same (fun z => z.1.elim y1 (fun z => z.elim y2 y3)), w1.same (fun z => z.1.elim y4 y5)]
  have f19 : ∀ i p, X8.1 19 i p = X2.1 19 i p := fun i p => k8.same (fun z => z.1.elim (by decide) (fun z => z.elim (by decide) (by decide)))
  have he8 : eX X8 i0 i1 i2 (X.1 1 i1 2) pl pn (X.1 4 i2 2) inp (X.1 4 i2 3) exq := by
    have q1 := fun i p => f1 1 i p (by decide) (by decide) (by decide) (by decide) (by decide)
    have q2 := fun i p => f1 2 i p (by decide) (by decide) (by decide) (by decide) (by decide)
    have q3 := fun i p => f1 3 i p (by decide) (by decide) (by decide) (by decide) (by decide)
    have q4 := fun i p => f1 4 i p (by decide) (by decide) (by decide) (by decide) (by decide)
    have q5 := fun i p => f1 5 i p (by decide) (by decide) (by decide) (by decide) (by decide)
    have q6 := fun i p => f1 6 i p (by decide) (by decide) (by decide) (by decide) (by decide)
    unfold eX
    simp only [q1, q2, q3, q4, q5, q6, f19]
    exact ⟨trivial, hpl, fun a c hm hc => w2.2.2.2 a c hc hm, trivial, hin, trivial, hex⟩
  have h9 := xl_eq (B := X2) i0 i1 i2 hw2 rl.2 (P := fun r => r.2 = cdA (X.1 4 i2 3) exq (rnA (X.1 1 i1 2) (X.1 4 i2 2) pl pn (paC pl) inp 1000 ms0) ∧ rX r.1 i0 (rnA (X.1 1 i1 2) (X.1 4 i2 2) pl pn (paC pl) inp 1000 ms0).2) 1000 X8 ms0 (fun X10 => b0 (f_X1_isAsExpected X10 i0 i2) (fun v13 => if v13 = 0 then (some (X10, (119 : Int32))) else (some (X10, (111 : Int32))))) (FU.start (by decide) (by decide)) k8 hr8 he8 (by decide) (by decide)
    (fun Y σ2 hz hI hr he => by
      rw [hz]
      have hv := ver_X hI.oks i0 i2 hr he.2.2.2.2.2.1 he.2.2.2.2.2.2
      refine ok_b0e hv ?_
      unfold cdA
      rw [if_pos rfl]
      by_cases c : VER (X.1 4 i2 3) exq σ2
      · rw [if_pos c, if_pos c, if_neg (by decide)]
        exact ok_some ⟨rfl, hr⟩
      · rw [if_neg c, if_neg c, if_pos rfl]
        exact ok_some ⟨rfl, hr⟩)
    (fun Y σ2 e hz he hI hr => by
      rw [hz]
      unfold cdA
      rw [if_neg he]
      exact ⟨rfl, hr⟩)
  exact h9
