/-! the partner of a bracket, by heights alone -/
noncomputable def paC (pl : Nat → Int32) (a : Nat) : Int32 := @dite _ (∃ c, MT pl a c) (Classical.propDecidable _) (fun h => nI h.choose) (fun _ => @dite _ (∃ c, MT pl c a) (Classical.propDecidable _) (fun h => nI h.choose) (fun _ => 0))
theorem paC_l {pl : Nat → Int32} {a c : Nat} (h : MT pl a c) : paC pl a = nI c := by
  unfold paC
  have hx : ∃ c, MT pl a c := ⟨c, h⟩
  rw [dif_pos hx, MT_right hx.choose_spec h]
theorem paC_r {pl : Nat → Int32} {a c : Nat} (h : MT pl a c) : paC pl c = nI a := by
  unfold paC
  have hx : ¬ ∃ d, MT pl c d := fun ⟨d, hd⟩ => by
    have h1 := hd.2.2.2.1
    have h2 := h.2.2.2.2
    rw [h2] at h1
    exact absurd h1 (by decide)
  have hy : ∃ d, MT pl d c := ⟨a, h⟩
  rw [dif_neg hx, dif_pos hy, MT_left hy.choose_spec h]
/-! a run by itself: depth, stack, outputs, steps, inputs, place -/
abbrev MS : Type := Int32 × (Nat → Int32) × Int32 × (Nat → Int32) × Int32 × Int32 × Int32
def ndA (c : Int32) : Int32 := if c = 91 then 1 else if c = 93 then 1 else if c = 100 then 1 else if c = 105 then 0 else if c = 110 then 0 else if c = 111 then 1 else if c = 112 then 1 else 2
def erA (c ic d oc dn rd tp : Int32) : Int32 := if dn < 300 then (if ndA c ≤ d then (if c = 105 ∧ ¬ rd < ic then 101 else if c = 37 ∧ tp = 0 then 122 else if (c = 110 ∨ c = 105 ∨ c = 100) ∧ ¬ d < 12 then 118 else if c = 111 ∧ ¬ oc < 6 then 108 else 32) else 117) else 116
def tpA (s : Nat → Int32) (d : Int32) : Int32 := if 1 ≤ d then s (d - 1).toNatClampNeg else 0
def blA (s : Nat → Int32) (d : Int32) : Int32 := if 2 ≤ d then s (d - 2).toNatClampNeg else 0
def opA (c b t : Int32) : Int32 := if c = 37 then (if t = 0 then 0 else b - b / t * t) else if c = 42 then b * t else if c = 43 then b + t else b - t
def ups (f : Nat → Int32) (k : Nat) (x : Int32) : Nat → Int32 := fun j => if j = k then x else f j
/-- what a step does, but for the count of the steps -/
def stA (pa inp : Nat → Int32) (c m : Int32) (σ : MS) : MS :=
  match σ with
  | (d, s, oc, o, dn, rd, at_) =>
    if c = 37 ∨ c = 42 ∨ c = 43 ∨ c = 45 then (d - 1, ups s (d - 2).toNatClampNeg (opA c (blA s d) (tpA s d)), oc, o, dn, rd, at_ + 1)
    else if c = 91 then (d, s, oc, o, dn, rd, if tpA s d = 0 then pa at_.toNatClampNeg + 1 else at_ + 1)
    else if c = 93 then (d, s, oc, o, dn, rd, if tpA s d = 0 then at_ + 1 else pa at_.toNatClampNeg + 1)
    else if c = 100 then (d + 1, ups s d.toNatClampNeg (tpA s d), oc, o, dn, rd, at_ + 1)
    else if c = 105 then (d + 1, ups s d.toNatClampNeg (inp rd.toNatClampNeg), oc, o, dn, rd + 1, at_ + 1)
    else if c = 110 then (d + 1, ups s d.toNatClampNeg m, oc, o, dn, rd, at_ + 1)
    else if c = 111 then (d - 1, s, oc + 1, ups o oc.toNatClampNeg (tpA s d), dn, rd, at_ + 1)
    else if c = 112 then (d - 1, s, oc, o, dn, rd, at_ + 1)
    else if c = 115 then (d, ups (ups s (d - 2).toNatClampNeg (tpA s d)) (d - 1).toNatClampNeg (blA s d), oc, o, dn, rd, at_ + 1)
    else (d, s, oc, o, dn, rd, at_ + 1)
def bmp (σ : MS) : MS := (σ.1, σ.2.1, σ.2.2.1, σ.2.2.2.1, σ.2.2.2.2.1 + 1, σ.2.2.2.2.2)
def rnA (len ic : Int32) (pl pn pa inp : Nat → Int32) : Nat → MS → Int32 × MS
  | 0 => fun σ => (0, σ)
  | n + 1 => fun σ => if len ≤ σ.2.2.2.2.2.2 then (0, σ) else
      if erA (pl σ.2.2.2.2.2.2.toNatClampNeg) ic σ.1 σ.2.2.1 σ.2.2.2.2.1 σ.2.2.2.2.2.1 (tpA σ.2.1 σ.1) = 32 then
        rnA len ic pl pn pa inp n (bmp (stA pa inp (pl σ.2.2.2.2.2.2.toNatClampNeg) (pn σ.2.2.2.2.2.2.toNatClampNeg) σ))
      else (erA (pl σ.2.2.2.2.2.2.toNatClampNeg) ic σ.1 σ.2.2.1 σ.2.2.2.2.1 σ.2.2.2.2.2.1 (tpA σ.2.1 σ.1), σ)
def ms0 : MS := (0, fun _ => 0, 0, fun _ => 0, 0, 0, 0)
/-- the output is as expected -/
def VER (ec : Int32) (exq : Nat → Int32) (σ : MS) : Prop := σ.2.2.1 = ec ∧ ∀ j : Nat, j < σ.2.2.1.toNatClampNeg → σ.2.2.2.1 j = exq j
noncomputable def cdA (ec : Int32) (exq : Nat → Int32) (r : Int32 × MS) : Int32 := if r.1 = 0 then @ite _ (VER ec exq r.2) (Classical.propDecidable _) 111 119 else r.1
theorem erA_range (c ic d oc dn rd tp : Int32) : erA c ic d oc dn rd tp ≠ 0 := by
  unfold erA
  repeat' split
  all_goals decide
theorem erA_32 {c ic d oc dn rd tp : Int32} (h : erA c ic d oc dn rd tp = 32) : dn < 300 ∧ ndA c ≤ d ∧ (c = 105 → rd < ic) ∧ (c = 37 → ¬ tp = 0) ∧ ((c = 110 ∨ c = 105 ∨ c = 100) → d < 12) ∧ (c = 111 → oc < 6) := by
  unfold erA at h
  grind
/-! the class's machine -/
def rX (X : SS) (i : Nat) (σ : MS) : Prop := X.1 16 i 4 = σ.1 ∧ X.1 16 i 5 = σ.2.2.1 ∧ X.1 16 i 6 = σ.2.2.2.2.1 ∧ X.1 16 i 7 = σ.2.2.2.2.2.1 ∧ X.1 16 i 8 = σ.2.2.2.2.2.2 ∧ (∀ j : Nat, j < σ.1.toNatClampNeg → X.1 17 i j = σ.2.1 j) ∧ ∀ j : Nat, j < σ.2.2.1.toNatClampNeg → X.1 18 i j = σ.2.2.2.1 j
theorem cl_mono {x y : Int32} (h0 : 0 ≤ x) (h : x < y) : x.toNatClampNeg < y.toNatClampNeg := by
  obtain ⟨a, ha, rfl⟩ := nI_of (x := x) (by grind)
  obtain ⟨b, hb, rfl⟩ := nI_of (x := y) (by grind)
  rw [nI_clamp ha, nI_clamp hb]
  exact (nI_ltI ha hb).mp h
theorem cl_mono2 {x y : Int32} (h0 : 0 ≤ x) (h : x ≤ y) : x.toNatClampNeg ≤ y.toNatClampNeg := by
  obtain ⟨a, ha, rfl⟩ := nI_of (x := x) (by grind)
  obtain ⟨b, hb, rfl⟩ := nI_of (x := y) (by grind)
  rw [nI_clamp ha, nI_clamp hb]
  exact (nI_leI ha hb).mp h
theorem nb_eq (c : Int32) : f_X1_neededBy c = some (ndA c) := by
  unfold f_X1_neededBy ndA
  repeat' split
  all_goals rfl
theorem nu_eq {X : SS} (hX : OKS X) (i : Nat) {d : Int32} {s : Nat → Int32} (hd : X.1 16 i 4 = d) (hs : ∀ j : Nat, j < d.toNatClampNeg → X.1 17 i j = s j) : f_X1_numberUnder X i 0 = some (tpA s d) ∧ f_X1_numberUnder X i 1 = some (blA s d) := by
  have r1 : (0 : Int32) ≤ X.1 16 i 4 ∧ X.1 16 i 4 ≤ (12 : Int32) := hX.at1 16 i 4
  rw [hd] at r1
  have hv : ∀ k : Int32, 1 ≤ k → k ≤ 2 → k ≤ d → vp_in (d - k) 12 ∧ X.1 17 i (d - k).toNatClampNeg = s (d - k).toNatClampNeg := fun k h1 h2 h3 =>
    ⟨vp_of (by decide) (by grind) (show d - k < (12 : Int32) by grind), hs _ (cl_mono (by grind) (by grind))⟩
  refine ⟨?_, ?_⟩
  · unfold f_X1_numberUnder tpA
    rw [hd, lq_e, show d - (1 : Int32) - 0 = d - 1 by grind]
    by_cases h : 1 ≤ d
    · rw [if_neg (show ¬ d - 1 < 0 by grind), if_neg (show ¬ (12 : Int32) ≤ d - 1 by grind), gd_t (hv 1 (by decide) (by decide) h).1, if_pos h, (hv 1 (by decide) (by decide) h).2]
    · rw [if_pos (show d - 1 < 0 by grind), if_neg h]
  · unfold f_X1_numberUnder blA
    rw [hd, lq_e, show d - (1 : Int32) - 1 = d - 2 by grind]
    by_cases h : 2 ≤ d
    · rw [if_neg (show ¬ d - 2 < 0 by grind), if_neg (show ¬ (12 : Int32) ≤ d - 2 by grind), gd_t (hv 2 (by decide) (by decide) h).1, if_pos h, (hv 2 (by decide) (by decide) h).2]
    · rw [if_pos (show d - 2 < 0 by grind), if_neg h]
theorem er_104 (X : SS) (i : Nat) (c : Int32) : f_X1_errorOf_J104 c X i = some (if c = 111 ∧ ¬ X.1 16 i 5 < 6 then 108 else 32) := by
  unfold f_X1_errorOf_J104
  by_cases h : c = 111
  · by_cases h2 : X.1 16 i 5 < 6
    · rw [if_pos h, if_pos h2, if_neg (fun q => q.2 h2)]
    · rw [if_pos h, if_neg h2, if_pos ⟨h, h2⟩]
  · rw [if_neg h, if_neg (fun q => h q.1)]
theorem er_64 (X : SS) (i : Nat) (c : Int32) : f_X1_errorOf_J64 c X i = some (if (c = 110 ∨ c = 105 ∨ c = 100) ∧ ¬ X.1 16 i 4 < 12 then 118 else if c = 111 ∧ ¬ X.1 16 i 5 < 6 then 108 else 32) := by
  unfold f_X1_errorOf_J64 f_X1_errorOf_J82 f_X1_errorOf_J87
  rw [er_104]
  have e10 : ¬ ((1 : Int32) = 0) := by decide
  rw [if_neg e10, if_pos (show (0 : Int32) = 0 from rfl)]
  by_cases h2 : X.1 16 i 4 < 12
  · rw [if_pos h2, if_neg (show ¬ ((c = 110 ∨ c = 105 ∨ c = 100) ∧ ¬ X.1 16 i 4 < 12) from fun q => q.2 h2)]
    grind
  · rw [if_neg h2]
    by_cases a1 : c = 110
    · rw [if_pos a1, if_pos (show (c = 110 ∨ c = 105 ∨ c = 100) ∧ ¬ X.1 16 i 4 < 12 from ⟨.inl a1, h2⟩)]
    · rw [if_neg a1]
      by_cases a2 : c = 105
      · rw [if_pos a2, if_pos (show (c = 110 ∨ c = 105 ∨ c = 100) ∧ ¬ X.1 16 i 4 < 12 from ⟨.inr (.inl a2), h2⟩)]
      · rw [if_neg a2]
        by_cases a3 : c = 100
        · rw [if_pos a3, if_pos (show (c = 110 ∨ c = 105 ∨ c = 100) ∧ ¬ X.1 16 i 4 < 12 from ⟨.inr (.inr a3), h2⟩)]
        · rw [if_neg a3, if_neg (show ¬ ((c = 110 ∨ c = 105 ∨ c = 100) ∧ ¬ X.1 16 i 4 < 12) from fun q => q.1.elim a1 (fun q => q.elim a2 a3))]
theorem er_47 {X : SS} {i : Nat} {c tp : Int32} (hn : f_X1_numberUnder X i 0 = some tp) : f_X1_errorOf_J47 c X i = some (if c = 37 ∧ tp = 0 then 122 else if (c = 110 ∨ c = 105 ∨ c = 100) ∧ ¬ X.1 16 i 4 < 12 then 118 else if c = 111 ∧ ¬ X.1 16 i 5 < 6 then 108 else 32) := by
  unfold f_X1_errorOf_J47
  rw [hn, er_64, b0_some]
  by_cases h : c = 37
  · by_cases h2 : tp = 0
    · rw [if_pos h, if_pos h2, if_pos (show c = 37 ∧ tp = 0 from ⟨h, h2⟩)]
    · rw [if_pos h, if_neg h2, if_neg (show ¬ (c = 37 ∧ tp = 0) from fun q => h2 q.2)]
  · rw [if_neg h, if_neg (show ¬ (c = 37 ∧ tp = 0) from fun q => h q.1)]
theorem er_eq {X : SS} (hX : OKS X) (i i2 : Nat) (c : Int32) {σ : MS} (hr : rX X i σ) : f_X1_errorOf X i c i2 = some (erA c (X.1 4 i2 2) σ.1 σ.2.2.1 σ.2.2.2.2.1 σ.2.2.2.2.2.1 (tpA σ.2.1 σ.1)) := by
  obtain ⟨h1, h2, h3, h4, h5, h6, h7⟩ := hr
  have hn := (nu_eq hX i h1 h6).1
  unfold f_X1_errorOf erA
  rw [er_47 hn, nb_eq, b0_some, h1, h2, h3, h4]
  by_cases q1 : σ.2.2.2.2.1 < 300
  · rw [if_pos q1, if_pos q1]
    by_cases q2 : ndA c ≤ σ.1
    · rw [if_pos q2, if_pos q2]
      by_cases q3 : c = 105
      · by_cases q4 : σ.2.2.2.2.2.1 < X.1 4 i2 2
        · rw [if_pos q3, if_pos q4, if_neg (show ¬ (c = 105 ∧ ¬ σ.2.2.2.2.2.1 < X.1 4 i2 2) from fun q => q.2 q4)]
        · rw [if_pos q3, if_neg q4, if_pos (show c = 105 ∧ ¬ σ.2.2.2.2.2.1 < X.1 4 i2 2 from ⟨q3, q4⟩)]
      · rw [if_neg q3, if_neg (show ¬ (c = 105 ∧ ¬ σ.2.2.2.2.2.1 < X.1 4 i2 2) from fun q => q3 q.1)]
    · rw [if_neg q2, if_neg q2]
  · rw [if_neg q1, if_neg q1]
theorem rep_eq {X : SS} (hX : OKS X) (i : Nat) (pp x : Int32) (h0 : 0 ≤ pp) (h : pp ≤ X.1 16 i 4) (h2 : X.1 16 i 4 - pp < 12) : f_X1_replace X i pp x = some (u1 (u1 (u1 X 16 i 4 (X.1 16 i 4 - pp)) 17 i (X.1 16 i 4 - pp).toNatClampNeg x) 16 i 4 (X.1 16 i 4 - pp + 1), ()) := by
  have r1 : (0 : Int32) ≤ X.1 16 i 4 ∧ X.1 16 i 4 ≤ (12 : Int32) := hX.at1 16 i 4
  have hv : vp_in (X.1 16 i 4 - pp) 12 := vp_of (by decide) (by grind) (show X.1 16 i 4 - pp < (12 : Int32) by grind)
  unfold f_X1_replace
  rw [if_neg (show ¬ X.1 16 i 4 < pp by grind)]
  unfold f_X1_replace_J19
  rw [lq_e, up_s, if_neg (show ¬ (12 : Int32) ≤ X.1 16 i 4 - pp by grind), gd_t hv, lq_e, lq_e, up_k (by decide), up_s]
