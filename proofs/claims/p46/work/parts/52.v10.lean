/-! read: a copy is kept -/
theorem u3_e {X : SS} {k i p a b c : Nat} {x : Nat} : (u3 X a b c x).2.2.1 k i p = if k = a ∧ i = b ∧ p = c then x else X.2.2.1 k i p := rfl
def SH (v6 v j : Nat) : Nat := if v6 ≤ j ∧ j < v then j + 1 else j
theorem SH_0 (v j : Nat) : SH v v j = j := by
  unfold SH
  rw [if_neg (by omega)]
theorem SH_s {v6 v j : Nat} (h : v6 ≤ v) : SH v6 (v + 1) j = if j = v then v + 1 else SH v6 v j := by
  unfold SH
  split <;> split <;> (try split) <;> omega
theorem SH_v {v6 v : Nat} : SH v6 v (v + 1) = v + 1 := by
  unfold SH
  rw [if_neg (by omega)]
theorem pc_L2 {X : SS} {m cnt : Nat} {p : Int32} (hc : cnt ≤ 3) (e9 : X.1 9 m 2 = nI cnt) {P : Int32 → Prop} : ∀ (n v : Nat) (k : Unit → Option Int32), 4 ≤ v + n → v ≤ cnt → ok (k ()) P → (∀ j, j < cnt → X.1 11 m j = p → P (nI j)) → ok (f_X2_placeOfCopy_L2 X m p n (nI v) k) P := by
  intro n
  induction n with
  | zero => intro v k h1 h2; omega
  | succ n ih =>
    intro v k h1 h2 hk hP
    rw [f_X2_placeOfCopy_L2]
    show ok (if X.1 9 m 2 ≤ nI v then k () else _) P
    rw [e9]
    refine ok_ite (fun _ => hk) (fun c => ?_)
    rw [nI_leI (by omega) (by omega)] at c
    refine ok_gd (nI_in (by omega) (by decide)) (fun _ => ?_)
    rw [nI_clamp (by omega), nI_1]
    exact ok_ite (fun z => ok_some (hP v (by omega) z)) (fun _ => ih (v + 1) k (by omega) (by omega) hk hP)
theorem pc_eq {X : SS} {m cnt : Nat} {p : Int32} (hc : cnt ≤ 3) (e9 : X.1 9 m 2 = nI cnt) : ok (f_X2_placeOfCopy X m p) (fun r => r = -1 ∨ ∃ j, j < cnt ∧ r = nI j ∧ X.1 11 m j = p) := by
  unfold f_X2_placeOfCopy
  exact pc_L2 hc e9 1000 0 _ (by omega) (by omega) (ok_some (Or.inl rfl)) (fun j hj h => Or.inr ⟨j, hj, rfl, h⟩)
def KCF (X : SS) (m v6 v : Nat) (Y : SS) : Prop := OKS Y ∧ (∀ k i p : Nat, ¬ (k = 11 ∧ i = m) → Y.1 k i p = X.1 k i p) ∧ Y.2.1 = X.2.1 ∧ (∀ i p : Nat, i ≠ m → Y.2.2.1 10 i p = X.2.2.1 10 i p) ∧ (∀ j : Nat, Y.2.2.1 10 m j = X.2.2.1 10 m (SH v6 v j)) ∧ ∀ j : Nat, Y.1 11 m j = X.1 11 m (SH v6 v j)
theorem kc_L52 {X : SS} {m cnt v6 : Nat} (hm : m < 10) (hc : cnt ≤ 3) (e9 : X.1 9 m 2 = nI cnt) {P : SS × Unit → Prop} : ∀ (n v : Nat) (Y : SS) (k : SS → Option (SS × Unit)), 4 ≤ v + n → v6 ≤ v → v < cnt → KCF X m v6 v Y → (∀ Z : SS, KCF X m v6 (cnt - 1) Z → ok (k Z) P) → ok (f_X2_keepCopy_L52 m n (nI v) Y k) P := by
  intro n
  induction n with
  | zero => intro v Y k h1 h2; omega
  | succ n ih =>
    intro v Y k h1 h2 h3 hY hk
    obtain ⟨a1, a2, a3, a4, a5, a6⟩ := hY
    rw [f_X2_keepCopy_L52]
    show ok (if Y.1 9 m 2 ≤ nI v + 1 then k Y else _) P
    rw [a2 9 m 2 (by omega), e9, nI_1]
    refine ok_ite (fun c => ?_) (fun c => ?_)
    · rw [nI_leI (by omega) (by omega)] at c
      have e : v = cnt - 1 := by omega
      rw [e] at a5 a6
      exact hk Y ⟨a1, a2, a3, a4, a5, a6⟩
    · rw [nI_leI (by omega) (by omega)] at c
      have g1 : vp_in (nI (v + 1)) 3 := nI_in (by omega) (by decide)
      have g0 : vp_in (nI v) 3 := nI_in (by omega) (by decide)
      have g3 : 41 ≤ Y.2.2.1 10 m (v + 1) ∧ Y.2.2.1 10 m (v + 1) < 71 := a1.at3 hm (by omega)
      refine ok_gd g1 (fun _ => ok_gd (by rw [nI_clamp (by omega)]; exact g3.2) (fun _ => ok_gd g0 (fun _ => ok_lq (fun X26 e26 => ok_gd g1 (fun _ => ok_gd g0 (fun _ => ok_lq (fun X29 e29 => ?_)))))))
      rw [nI_clamp (by omega), nI_clamp (by omega)] at e26 e29
      have h26 : OKS X26 := by rw [e26]; have i : IV TT Y (u3 Y 10 m v (Y.2.2.1 10 m (v + 1))) := IV.w3 a1 trivial g3; exact i.oks
      have h29 : OKS X29 := by rw [e29]; have i : IV TT X26 (u1 X26 11 m v (X26.1 11 m (v + 1))) := IV.w1f h26 rfl trivial rfl; exact i.oks
      have b26 : X26.1 = Y.1 := by rw [e26]; rfl
      have b26' : X26.2.1 = Y.2.1 := by rw [e26]; rfl
      have b29 : X29.2 = X26.2 := by rw [e29]; rfl
      refine ih (v + 1) X29 k (by omega) (by omega) (by omega) ⟨h29, fun k i p h => ?_, ?_, fun i p h => ?_, fun j => ?_, fun j => ?_⟩ hk
      · rw [e29, up_e, if_neg (fun z => h ⟨z.1, z.2.1⟩), b26]
        exact a2 k i p h
      · rw [b29, b26', a3]
      · rw [b29, e26, u3_e, if_neg (fun z => h z.2.1)]
        exact a4 i p h
      · rw [b29, e26, u3_e, SH_s h2]
        by_cases y : j = v
        · rw [if_pos ⟨rfl, rfl, y⟩, if_pos y, a5, SH_v]
        · rw [if_neg (fun z => y z.2.2), if_neg y, a5]
      · rw [e29, up_e, SH_s h2, b26]
        by_cases y : j = v
        · rw [if_pos ⟨rfl, rfl, y⟩, if_pos y, a6, SH_v]
        · rw [if_neg (fun z => y z.2.2), if_neg y, a6]
/-- the copies but one -/
def CPX (X : SS) (m v6 : Nat) : Prop := ∀ a : Nat, a < 10 → ∀ j : Nat, j < (X.1 9 a 2).toNatClampNeg → ¬ (a = m ∧ j = v6) → (0 : Int32) ≤ X.1 11 a j ∧ (X.1 11 a j).toNatClampNeg < WK X ∧ PRG X (X.2.2.1 10 a j) (X.1 11 a j).toNatClampNeg
def PMX (c v6 j : Nat) : Nat := if j = c then v6 else SH v6 c j
theorem PMX_lt {c v6 j : Nat} (hc : c < 3) (h6 : v6 ≤ c) (hj : j < 3) : PMX c v6 j < 3 := by
  unfold PMX SH
  split <;> (try split) <;> omega
theorem PMX_inj {c v6 a b : Nat} (h6 : v6 ≤ c) (h : PMX c v6 a = PMX c v6 b) : a = b := by
  unfold PMX SH at h
  split at h <;> split at h <;> (try split at h) <;> (try split at h) <;> omega
theorem kc_J41 {X : SS} (hX : OKS X) {m w c v6 : Nat} (hm : m < 10) (hw : w < WK X) (hc : c < 3) (e9 : X.1 9 m 2 = nI (c + 1)) (h6 : v6 ≤ c) (hb : ¬ X.1 12 w 12 = 0) (i1 : ROM X) (i2 : BOD X) (i3 : VOT X) (i4 : CPX X m v6) (i5 : REF X) (i6 : CHA X) : ok (f_X2_keepCopy_J41 X m (nI w) (w + 1) (nI v6)) (fun r => OKS r.1 ∧ INV r.1) := by
  have hW := WK_40 hX
  have r6 := (i5 m hm).1 v6 (by omega)
  have r63 : 41 ≤ X.2.2.1 10 m v6 ∧ X.2.2.1 10 m v6 < 71 := hX.at3 hm (by omega)
  unfold f_X2_keepCopy_J41
  refine ok_gd (nI_in (by omega) (by decide)) (fun _ => ?_)
  rw [nI_clamp (by omega)]
  refine ok_gd r63.2 (fun _ => ?_)
  refine kc_L52 (X := X) (v6 := v6) hm (by omega) e9 1000 v6 X _ (by omega) (Nat.le_refl _) (by omega) ⟨hX, fun _ _ _ _ => rfl, rfl, fun _ _ _ => rfl, fun j => by rw [SH_0], fun j => by rw [SH_0]⟩ (fun Z hZ => ?_)
  obtain ⟨z1, z2, z3, z4, z5, z6⟩ := hZ
  rw [show c + 1 - 1 = c by omega] at z5 z6
  refine ok_lq (fun v14 e14 => ?_)
  have e14' : v14 = nI c := by rw [e14, z2 9 m 2 (by omega), e9, nI_pred]
  rw [e14']
  have gc : vp_in (nI c) 3 := nI_in hc (by decide)
  refine ok_gd gc (fun _ => ok_lq (fun X16 e16 => ok_gd gc (fun _ => ok_lq (fun X18 e18 => ?_))))
  rw [nI_clamp (by omega)] at e16 e18
  have h16 : OKS X16 := by rw [e16]; have i : IV TT Z (u3 Z 10 m c (X.2.2.1 10 m v6)) := IV.w3 z1 trivial r63; exact i.oks
  have h18 : OKS X18 := by rw [e18]; have i : IV TT X16 (u1 X16 11 m c (nI w)) := IV.w1f h16 rfl trivial rfl; exact i.oks
  have b16 : X16.1 = Z.1 := by rw [e16]; rfl
  have b16' : X16.2.1 = Z.2.1 := by rw [e16]; rfl
  have b18 : X18.2 = X16.2 := by rw [e18]; rfl
  generalize hρ : X.2.2.1 10 m v6 = ρ at *
  refine ok_b1 (tp_eq h18 (i := ρ) (j := w + 1) (by omega)) (fun Y v19 g => ok_some ?_)
  obtain ⟨g1, g2, g3, g4, g5⟩ := g
  simp only at g1 g2 g3 g4 g5
  show OKS Y ∧ INV Y
  have f18 : ∀ k i p : Nat, ¬ (k = 11 ∧ i = m) → X18.1 k i p = X.1 k i p := fun k i p h => by rw [e18, up_e, if_neg (fun z => h ⟨z.1, z.2.1⟩), b16, z2 k i p h]
  have fY : ∀ k i p : Nat, ¬ (k = 11 ∧ i = m) → ¬ (i = ρ ∧ (k = 1 ∨ k = 2 ∨ k = 3)) → Y.1 k i p = X.1 k i p := fun k i p h h2 => by rw [g3 k i p h2, f18 k i p h]
  have sY : Y.2.1 = X.2.1 := by rw [g4, b18, b16', z3]
  have rY : ∀ i p : Nat, i ≠ m → Y.2.2.1 10 i p = X.2.2.1 10 i p := fun i p h => by rw [g4, b18, e16, u3_e, if_neg (fun z => h z.2.1), z4 i p h]
  have rYm : ∀ j : Nat, Y.2.2.1 10 m j = X.2.2.1 10 m (PMX c v6 j) := fun j => by
    rw [g4, b18, e16, u3_e]
    unfold PMX
    by_cases y : j = c
    · rw [if_pos ⟨rfl, rfl, y⟩, if_pos y, hρ]
    · rw [if_neg (fun z => y z.2.2), if_neg y, z5]
  have cYm : ∀ j : Nat, Y.1 11 m j = if j = c then nI w else X.1 11 m (SH v6 c j) := fun j => by
    rw [g3 11 m j (by omega), e18, up_e]
    by_cases y : j = c
    · rw [if_pos ⟨rfl, rfl, y⟩, if_pos y]
    · rw [if_neg (fun z => y z.2.2), if_neg y, b16, z6]
  have hkt : KT X Y := ⟨fun t _ => ⟨fY 4 t 2 (by omega) (by omega), fY 4 t 3 (by omega) (by omega), funext fun a => fY 5 t a (by omega) (by omega), funext fun a => fY 6 t a (by omega) (by omega)⟩, fun k => fY 7 k 1 (by omega) (by omega)⟩
  have hkp : ∀ i : Nat, i ≠ ρ → KP X Y i := fun i h => ⟨fY 1 i 2 (by omega) (by omega), funext fun a => fY 2 i a (by omega) (by omega), funext fun a => fY 3 i a (by omega) (by omega)⟩
  have eW : WK Y = WK X := by
    unfold WK
    rw [fY 0 0 11 (by omega) (by omega)]
  have x2 : ∀ a : Nat, X18.1 2 (w + 1) a = X.1 2 (w + 1) a := fun a => f18 2 _ a (by omega)
  have x3 : ∀ a : Nat, X18.1 3 (w + 1) a = X.1 3 (w + 1) a := fun a => f18 3 _ a (by omega)
  have x1 : X18.1 1 (w + 1) 2 = X.1 1 (w + 1) 2 := f18 1 _ 2 (by omega)
  have new : PRG Y ρ w := by
    have tp := tp_prg (X := X) (Y := Y) (i := ρ) (j := w + 1) (w := w) (by rw [g2, x1]) (fun a ha => by
      have := g5 a (by rw [x1]; exact ha)
      rw [this.1, this.2, x2, x3]
      exact ⟨rfl, rfl⟩)
    obtain ⟨⟨p1, p2⟩, -⟩ := i2 w hw hb
    exact ⟨tp.1 p1, by rw [tp.2, sY, p2]⟩
  refine ⟨g1, ?_, fun v hv => ?_, ?_, ?_, ?_, ?_⟩
  · unfold ROM at i1 ⊢
    rw [eW, fY 0 0 13 (by omega) (by omega), nbX_cong (X := X) (Y := Y) _ (fun j _ => by rw [fY 12 j 12 (by omega) (by omega)])]
    exact i1
  · rw [eW] at hv
    exact bd1_keep hX hkt (hkp (v + 1) (by omega)) (by rw [sY]) (fY 12 v 8 (by omega) (by omega)) (fY 12 v 11 (by omega) (by omega)) (fY 12 v 12 (by omega) (by omega)) (i2 v hv)
  · exact vot_keep (fun v => ⟨fY 12 v 5 (by omega) (by omega), fY 12 v 6 (by omega) (by omega)⟩) (fun v m => ⟨fY 14 v m (by omega) (by omega), fY 15 v m (by omega) (by omega)⟩) i3
  · intro a ha j hj
    rw [fY 9 a 2 (by omega) (by omega)] at hj
    rw [eW]
    by_cases y : a = m
    · subst y
      have hj2 : j < c + 1 := by
        rw [e9, nI_clamp (by omega)] at hj
        exact hj
      rw [cYm, rYm]
      by_cases z : j = c
      · rw [if_pos z]
        unfold PMX
        rw [if_pos z, hρ, nI_clamp (by omega)]
        exact ⟨nI_pos' (by omega), hw, new⟩
      · rw [if_neg z]
        unfold PMX
        rw [if_neg z]
        have hs : SH v6 c j < c + 1 ∧ SH v6 c j ≠ v6 := by
          unfold SH
          split <;> omega
        obtain ⟨d1, d2, d3⟩ := i4 a ha (SH v6 c j) (by rw [e9, nI_clamp (by omega)]; exact hs.1) (fun q => hs.2 q.2)
        refine ⟨d1, d2, (hkp _ (fun q => ?_)).prg (by rw [sY]) d3⟩
        rw [← hρ] at q
        exact hs.2 ((i5 a ha).2 _ _ (by omega) (by omega) q)
    · rw [fY 11 a j (by omega) (by omega), rY a j y]
      obtain ⟨d1, d2, d3⟩ := i4 a ha j hj (fun q => y q.1)
      have c3 := c9_2 hX a
      have ra := (i5 a ha).1 j (by omega)
      exact ⟨d1, d2, (hkp _ (by omega)).prg (by rw [sY]) d3⟩
  · intro a ha
    by_cases y : a = m
    · subst y
      refine ⟨fun j hj => ?_, fun x y hx hy h => ?_⟩
      · rw [rYm]
        exact (i5 a ha).1 _ (PMX_lt hc h6 hj)
      · rw [rYm, rYm] at h
        exact PMX_inj h6 ((i5 a ha).2 _ _ (PMX_lt hc h6 hx) (PMX_lt hc h6 hy) h)
    · refine ⟨fun j hj => ?_, fun x y2 hx hy h => ?_⟩
      · rw [rY a j y]
        exact (i5 a ha).1 j hj
      · rw [rY a x y, rY a y2 y] at h
        exact (i5 a ha).2 x y2 hx hy h
  · exact cha_keep (fY 0 0 11 (by omega) (by omega)) (fY 0 0 12 (by omega) (by omega)) (fun a => fY 24 0 a (by omega) (by omega)) (fun v => by rw [fY 12 v 11 (by omega) (by omega)]) i6
theorem CPX.of {X : SS} (h : CPY X) (m v6 : Nat) : CPX X m v6 := fun a ha j hj _ => h a ha j hj
theorem keep_inv {X : SS} (hX : OKS X) (hi : INV X) {m w : Nat} (hm : m < 10) (hw : w < WK X) (hb : ¬ X.1 12 w 12 = 0) : ok (f_X2_keepCopy X m (nI w) (w + 1)) (fun r => OKS r.1 ∧ INV r.1) := by
  have r9 : (0 : Int32) ≤ X.1 9 m 2 ∧ X.1 9 m 2 ≤ (3 : Int32) := hX.at1 9 m 2
  have e9 := cl_nI r9.1
  have h9 := c9_2 hX m
  have hW := WK_40 hX
  obtain ⟨a1, a2, a3, a4, a5, a6⟩ := hi
  generalize hcnt : (X.1 9 m 2).toNatClampNeg = cnt at *
  have old : ∀ j, j < cnt → ok (f_X2_keepCopy_J41 X m (nI w) (w + 1) (nI j)) (fun r => OKS r.1 ∧ INV r.1) := fun j hj => by
    obtain ⟨c, rfl⟩ : ∃ c, cnt = c + 1 := ⟨cnt - 1, by omega⟩
    exact kc_J41 hX hm hw (by omega) e9.symm (by omega) hb a1 a2 a3 (CPX.of a4 m j) a5 a6
  unfold f_X2_keepCopy
  refine ok_b0 (pc_eq h9 e9.symm) (fun v1 q => ?_)
  have j34 : ∀ j, j < cnt → ok (f_X2_keepCopy_J34 m (nI w) (w + 1) (nI j) X) (fun r => OKS r.1 ∧ INV r.1) := fun j hj => by
    unfold f_X2_keepCopy_J34
    exact ok_ite (fun z => absurd z (nI_m1 (by omega))) (fun _ => old j hj)
  refine ok_ite (fun c1 => ?_) (fun c1 => ?_)
  · refine ok_ite (fun c3 => ?_) (fun c3 => ?_)
    · rw [c1]
      unfold f_X2_keepCopy_J34
      refine ok_ite (fun _ => ?_) (fun z => absurd rfl z)
      have h3 : nI 3 ≤ nI cnt := by rw [e9]; exact c3
      rw [nI_leI (by omega) (by omega)] at h3
      exact old 0 (by omega)
    · have h3 : ¬ nI 3 ≤ nI cnt := by rw [e9]; exact c3
      rw [nI_leI (by omega) (by omega)] at h3
      refine ok_lq (fun v33 e33 => ok_lq (fun X34 e34 => ?_))
      have ev : v33 = nI cnt := by rw [e33, e9]
      rw [ev]
      unfold f_X2_keepCopy_J34
      refine ok_ite (fun z => absurd z (nI_m1 (by omega))) (fun _ => ?_)
      have h34 : OKS X34 := by rw [e34]; have i : IV TT X (u1 X 9 m 2 (X.1 9 m 2 + 1)) := IV.w1 hX rfl trivial (show (0 : Int32) ≤ X.1 9 m 2 + 1 ∧ X.1 9 m 2 + 1 ≤ (3 : Int32) from ⟨by grind, by grind⟩); exact i.oks
      have f34 : ∀ k i p : Nat, ¬ (k = 9 ∧ i = m ∧ p = 2) → X34.1 k i p = X.1 k i p := fun k i p h => by rw [e34, up_e, if_neg h]
      have g34 : X34.2 = X.2 := by rw [e34]; rfl
      have e934 : X34.1 9 m 2 = nI (cnt + 1) := by rw [e34, up_s, ← e9, nI_1]
      have eW : WK X34 = WK X := by
        unfold WK
        rw [f34 0 0 11 (by omega)]
      have hkt : KT X X34 := ⟨fun t _ => ⟨f34 4 t 2 (by omega), f34 4 t 3 (by omega), funext fun a => f34 5 t a (by omega), funext fun a => f34 6 t a (by omega)⟩, fun k => f34 7 k 1 (by omega)⟩
      have hkp : ∀ i : Nat, KP X X34 i := fun i => ⟨f34 1 i 2 (by omega), funext fun a => f34 2 i a (by omega), funext fun a => f34 3 i a (by omega)⟩
      refine kc_J41 h34 hm (by omega) (by omega) e934 (Nat.le_refl _) (by rw [f34 12 w 12 (by omega)]; exact hb) ?_ (fun v hv => ?_) ?_ (fun a ha j hj hn => ?_) ?_ ?_
      · unfold ROM at a1 ⊢
        rw [eW, f34 0 0 13 (by omega), nbX_cong (X := X) (Y := X34) _ (fun j _ => by rw [f34 12 j 12 (by omega)])]
        exact a1
      · rw [eW] at hv
        exact bd1_keep hX hkt (hkp (v + 1)) (by rw [g34]) (f34 12 v 8 (by omega)) (f34 12 v 11 (by omega)) (f34 12 v 12 (by omega)) (a2 v hv)
      · exact vot_keep (fun v => ⟨f34 12 v 5 (by omega), f34 12 v 6 (by omega)⟩) (fun v m => ⟨f34 14 v m (by omega), f34 15 v m (by omega)⟩) a3
      · rw [eW, f34 11 a j (by omega), g34]
        have hj2 : j < (X.1 9 a 2).toNatClampNeg := by
          by_cases y : a = m
          · subst y
            rw [e934, nI_clamp (by omega)] at hj
            rw [hcnt]
            have : ¬ j = cnt := fun z => hn ⟨rfl, z⟩
            omega
          · rw [f34 9 a 2 (by omega)] at hj
            exact hj
        obtain ⟨d1, d2, d3⟩ := a4 a ha j hj2
        exact ⟨d1, d2, (hkp _).prg (by rw [g34]) d3⟩
      · exact ref_keep (fun m j => by rw [g34]) a5
      · exact cha_keep (f34 0 0 11 (by omega)) (f34 0 0 12 (by omega)) (fun a => f34 24 0 a (by omega)) (fun v => by rw [f34 12 v 11 (by omega)]) a6
  · rcases q with q | ⟨j, hj, q, -⟩
    · exact absurd q c1
    · rw [q]
      exact j34 j hj
theorem read_inv {X : SS} (hX : OKS X) (hi : INV X) (p q : Int32) : ok (f_X6_read X p q) (fun r => OKS r.1 ∧ INV r.1) := by
  have r10 : (0 : Int32) ≤ X.1 0 0 10 ∧ X.1 0 0 10 ≤ (10 : Int32) := hX.at1 0 0 10
  unfold f_X6_read
  by_cases a : p < 0 ∨ X.1 0 0 10 ≤ p
  · rw [memberAt_no a, e0_inr]
    exact ok_some ⟨hX, hi⟩
  rw [memberAt_in hX a, e0_inl]
  by_cases c : q < 0 ∨ X.1 0 0 11 ≤ q
  · rw [workAt_no c, e0_inr]
    exact ok_some ⟨hX, hi⟩
  rw [workAt_in hX c, e0_inl]
  have hm : p.toNatClampNeg < 10 := cl_lt (vp_of (by decide) (by grind) (show p < (10 : Int32) by grind))
  have hw : q.toNatClampNeg < WK X := cl_mono (by grind) (by grind)
  have eq_ : nI q.toNatClampNeg = q := cl_nI (by grind)
  refine ok_ite (fun _ => ok_some ⟨hX, hi⟩) (fun z => ?_)
  have h := keep_inv hX hi hm hw z
  rw [eq_] at h
  exact ok_b1 h (fun X15 v14 y => ok_some y)
