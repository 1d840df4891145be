/-! challenges -/
def c9 (X : SS) : Nat → Nat
  | 0 => 0
  | w + 1 => c9 X w + (if X.1 12 w 11 = 99 then 1 else 0)
theorem c9_le (X : SS) : ∀ w : Nat, c9 X w ≤ w
  | 0 => Nat.le_refl _
  | w + 1 => by
    have := c9_le X w
    unfold c9
    split <;> omega
theorem c9_cong {X Y : SS} : ∀ w : Nat, (∀ j, j < w → (Y.1 12 j 11 = 99 ↔ X.1 12 j 11 = 99)) → c9 Y w = c9 X w
  | 0, _ => rfl
  | w + 1, h => by
    unfold c9
    rw [c9_cong w (fun j hj => h j (by omega))]
    by_cases z : X.1 12 w 11 = 99
    · rw [if_pos z, if_pos ((h w (by omega)).mpr z)]
    · rw [if_neg z, if_neg (fun q => z ((h w (by omega)).mp q))]
def CHA (X : SS) : Prop := (∀ a : Nat, a < (X.1 0 0 12).toNatClampNeg → (X.1 24 0 a).toNatClampNeg < (X.1 0 0 11).toNatClampNeg ∧ X.1 12 (X.1 24 0 a).toNatClampNeg 11 = 99) ∧ (∀ a b : Nat, a < b → b < (X.1 0 0 12).toNatClampNeg → ¬ X.1 24 0 a = X.1 24 0 b) ∧ c9 X (X.1 0 0 11).toNatClampNeg = (X.1 0 0 12).toNatClampNeg
theorem ch_L4 {X : SS} (hX : OKS X) : ∀ (n v : Nat) (k : Int32 → Option Int32), 41 ≤ v + n → v ≤ (X.1 0 0 11).toNatClampNeg → f_X6_areChallengesSound_L4 X n (nI v) (nI (c9 X v)) k = k (nI (c9 X (X.1 0 0 11).toNatClampNeg)) := by
  have r11 : (0 : Int32) ≤ X.1 0 0 11 ∧ X.1 0 0 11 ≤ (40 : Int32) := hX.at1 0 0 11
  have eW := cl_nI r11.1
  have hW : (X.1 0 0 11).toNatClampNeg ≤ 40 := cl_le r11.2 (by decide)
  generalize (X.1 0 0 11).toNatClampNeg = W at eW hW
  intro n
  induction n with
  | zero => intro v k h1 h2; omega
  | succ n ih =>
    intro v k h1 h2
    rw [f_X6_areChallengesSound_L4]
    show (if X.1 0 0 11 ≤ nI v then k (nI (c9 X v)) else _) = _
    rw [← eW]
    by_cases c : nI W ≤ nI v
    · rw [if_pos c]
      rw [nI_leI (by omega) (by omega)] at c
      rw [show v = W by omega]
    · rw [if_neg c]
      rw [nI_leI (by omega) (by omega)] at c
      rw [gd_t (show vp_in (nI v) 40 from nI_in (by omega) (by decide)), nI_clamp (by omega), nI_1]
      by_cases z : X.1 12 v 11 = 99
      · rw [if_pos z, nI_1]
        have h := ih (v + 1) k (by omega) (by omega)
        have e0 : c9 X (v + 1) = c9 X v + 1 := by
          show c9 X v + (if X.1 12 v 11 = 99 then 1 else 0) = c9 X v + 1
          rw [if_pos z]
        rw [e0] at h
        exact h
      · rw [if_neg z]
        have h := ih (v + 1) k (by omega) (by omega)
        have e0 : c9 X (v + 1) = c9 X v := by
          show c9 X v + (if X.1 12 v 11 = 99 then 1 else 0) = c9 X v
          rw [if_neg z]
          rfl
        rw [e0] at h
        exact h
theorem ot_L2 {X : SS} (h : CHA X) {v : Nat} (hv8 : v < 8) (hv : v < (X.1 0 0 12).toNatClampNeg) : ∀ (n u : Nat) (k : Unit → Option Int32), 9 ≤ u + n → u ≤ v → f_X6_isOpenTwice_L2 (nI v) X n (nI u) k = k () := by
  intro n
  induction n with
  | zero => intro u k h1 h2; omega
  | succ n ih =>
    intro u k h1 h2
    rw [f_X6_isOpenTwice_L2]
    show (if nI v ≤ nI u then k () else _) = _
    by_cases c : nI v ≤ nI u
    · rw [if_pos c]
    · rw [if_neg c]
      rw [nI_leI (by omega) (by omega)] at c
      rw [gd_t (show vp_in (nI u) 8 from nI_in (by omega) (by decide)), gd_t (show vp_in (nI v) 8 from nI_in (by omega) (by decide)), nI_clamp (by omega), nI_clamp (by omega), if_neg (h.2.1 u v (by omega) hv), nI_1]
      exact ih (u + 1) k (by omega) (by omega)
theorem ch_L37 {X : SS} (hX : OKS X) (h : CHA X) : ∀ (n v : Nat) (k : Unit → Option Int32), 9 ≤ v + n → v ≤ 8 → f_X6_areChallengesSound_L37 X n (nI v) k = k () := by
  have r12 : (0 : Int32) ≤ X.1 0 0 12 ∧ X.1 0 0 12 ≤ (8 : Int32) := hX.at1 0 0 12
  have eN := cl_nI r12.1
  intro n
  induction n with
  | zero => intro v k h1 h2; omega
  | succ n ih =>
    intro v k h1 h2
    rw [f_X6_areChallengesSound_L37]
    show (if X.1 0 0 12 ≤ nI v then k () else _) = _
    by_cases c : X.1 0 0 12 ≤ nI v
    · rw [if_pos c]
    · rw [if_neg c]
      have hN : (X.1 0 0 12).toNatClampNeg ≤ 8 := cl_le r12.2 (by decide)
      have hv : v < (X.1 0 0 12).toNatClampNeg := by
        rw [← eN, nI_leI (by omega) (by omega)] at c
        omega
      have r24 : (0 : Int32) ≤ X.1 24 0 v ∧ X.1 24 0 v ≤ (39 : Int32) := hX.at1 24 0 v
      rw [gd_t (show vp_in (nI v) 8 from nI_in (by omega) (by decide)), nI_clamp (by omega), gd_t (vp_of (by decide) r24.1 (show X.1 24 0 v < (40 : Int32) by grind)), if_pos (h.1 v hv).2]
      unfold f_X6_isOpenTwice
      have e0 := ot_L2 h (by omega) hv 1000 0 (fun _ => some (0 : Int32)) (by omega) (by omega)
      rw [nI_0] at e0
      rw [e0, b0_some, if_pos rfl, nI_1]
      exact ih (v + 1) k (by omega) (by omega)
theorem ch_eq2 {X : SS} (hX : OKS X) (h : CHA X) : f_X6_areChallengesSound X = some 1 := by
  have r12 : (0 : Int32) ≤ X.1 0 0 12 ∧ X.1 0 0 12 ≤ (8 : Int32) := hX.at1 0 0 12
  have eN := cl_nI r12.1
  unfold f_X6_areChallengesSound
  have e := ch_L4 hX 1000 0 (fun v2 => f_X6_areChallengesSound_L37 X 1000 (0 : Int32) (fun _ => if v2 = (X.1 0 0 12) then (some (1 : Int32)) else (some (0 : Int32)))) (by omega) (Nat.zero_le _)
  have e2 := ch_L37 hX h 1000 0 (fun _ => if nI (c9 X (X.1 0 0 11).toNatClampNeg) = (X.1 0 0 12) then (some (1 : Int32)) else (some (0 : Int32))) (by omega) (by omega)
  refine e.trans (e2.trans ?_)
  rw [h.2.2, eN, if_pos rfl]
/-! verdicts -/
noncomputable def CD (X : SS) (i t : Nat) : Int32 := cdA (X.1 4 t 3) (X.1 6 t) (rnA (X.1 1 i 2) (X.1 4 t 2) (X.1 2 i) (X.1 3 i) (paC (X.1 2 i)) (X.1 5 t) 1000 ms0)
def ALLp (X : SS) (i k : Nat) : Prop := ∀ t : Nat, t < (X.1 7 k 1).toNatClampNeg → CD X i (5 * k + t) = 111
noncomputable def VD (X : SS) (i k : Nat) : Int32 := @ite _ (ALLp X i k) (Classical.propDecidable _) 115 102
theorem VD_2 (X : SS) (i k : Nat) : VD X i k = 115 ∨ VD X i k = 102 := by
  unfold VD
  split
  · exact Or.inl rfl
  · exact Or.inr rfl
theorem CD_cong {X Y : SS} {i j t : Nat} (hX : OKS X) (hw : WH (X.1 2 i) (X.1 1 i 2).toNatClampNeg) (h1 : Y.1 1 j 2 = X.1 1 i 2) (h2 : ∀ a : Nat, a < (X.1 1 i 2).toNatClampNeg → Y.1 2 j a = X.1 2 i a ∧ Y.1 3 j a = X.1 3 i a) (h4 : Y.1 4 t 2 = X.1 4 t 2) (h5 : Y.1 4 t 3 = X.1 4 t 3) (h6 : ∀ a : Nat, a < (X.1 4 t 2).toNatClampNeg → Y.1 5 t a = X.1 5 t a) (h7 : ∀ a : Nat, a < (X.1 4 t 3).toNatClampNeg → Y.1 6 t a = X.1 6 t a) : CD Y j t = CD X i t := by
  obtain ⟨r, e1, c1, -⟩ := ex_eq hX 1 i t hw (pl := X.1 2 i) (pn := X.1 3 i) (inp := X.1 5 t) (exq := X.1 6 t) (fun _ _ => ⟨rfl, rfl⟩) (fun _ _ => rfl) (fun _ _ => rfl)
  obtain ⟨r2, e2, c2, -⟩ := ex_eq hX 1 i t hw (pl := Y.1 2 j) (pn := Y.1 3 j) (inp := Y.1 5 t) (exq := Y.1 6 t) (fun a ha => ⟨(h2 a ha).1.symm, (h2 a ha).2.symm⟩) (fun a ha => (h6 a ha).symm) (fun a ha => (h7 a ha).symm)
  rw [e1] at e2
  cases e2
  unfold CD
  rw [h1, h4, h5, ← c2, c1]
/-- all but the machines -/
def FB (X Y : SS) : Prop := (∀ k i p : Nat, k < 16 ∨ 20 < k → Y.1 k i p = X.1 k i p) ∧ (∀ k i p : Nat, Y.2.1 k i p = X.2.1 k i p) ∧ ∀ k i p : Nat, Y.2.2.1 k i p = X.2.2.1 k i p
theorem FB.refl (X : SS) : FB X X := ⟨fun _ _ _ _ => rfl, fun _ _ _ => rfl, fun _ _ _ => rfl⟩
theorem FB.trans {X Y Z : SS} (h : FB X Y) (h2 : FB Y Z) : FB X Z := ⟨fun k i p z => (h2.1 k i p z).trans (h.1 k i p z), fun k i p => (h2.2.1 k i p).trans (h.2.1 k i p), fun k i p => (h2.2.2 k i p).trans (h.2.2 k i p)⟩
theorem FB.fn {X Y : SS} (h : FB X Y) {k : Nat} (hk : k < 16 ∨ 20 < k) (i : Nat) : Y.1 k i = X.1 k i := funext fun p => h.1 k i p hk
theorem ex_FB {Y : SS} (hY : OKS Y) (i t : Nat) : ok (f_X1_execute Y 1 i t) (fun r => OKS r.1 ∧ FB Y r.1) :=
  ok_imp (w_X1_execute Y hY 1 i t) (fun r w => ⟨w.1.oks, fun k i p h => w.1.same (by simp; omega), fun k i p => w.1.same2 (by omega), fun k i p => w.1.same3 (by omega)⟩)
theorem CD_FB {X Y : SS} (h : FB X Y) (i t : Nat) : CD Y i t = CD X i t := by
  unfold CD
  rw [h.1 4 t 3 (by omega), h.1 4 t 2 (by omega), h.1 1 i 2 (by omega), h.fn (k := 6) (by omega) t, h.fn (k := 5) (by omega) t, h.fn (k := 2) (by omega) i, h.fn (k := 3) (by omega) i]
theorem pg_L2 {X : SS} {i k : Nat} (hw : WH (X.1 2 i) (X.1 1 i 2).toNatClampNeg) (hc : (0 : Int32) ≤ X.1 7 k 1 ∧ X.1 7 k 1 ≤ (5 : Int32)) : ∀ (n a : Nat) (Y : SS), 6 ≤ a + n → a ≤ 5 → nI a ≤ X.1 7 k 1 → OKS Y → FB X Y → (∀ t, t < a → CD X i (5 * k + t) = 111) →
    ok (f_X6_passesAll_L2 k i n (nI a) Y (fun X2 => some (X2, (1 : Int32)))) (fun r => OKS r.1 ∧ FB X r.1 ∧ ((r.2 = 1 ∧ ALLp X i k) ∨ (r.2 = 0 ∧ ¬ ALLp X i k))) := by
  intro n
  induction n with
  | zero => intro a Y h1 h2; omega
  | succ n ih =>
    intro a Y h1 h2 h3 hY hf hp
    rw [f_X6_passesAll_L2]
    show ok (if Y.1 7 k 1 ≤ nI a then some (Y, (1 : Int32)) else _) _
    rw [hf.1 7 k 1 (by omega)]
    refine ok_ite (fun c => ?_) (fun c => ?_)
    · have e : X.1 7 k 1 = nI a := by grind
      exact ok_some ⟨hY, hf, Or.inl ⟨rfl, fun t ht_ => hp t (by rw [e, nI_clamp (by omega)] at ht_; exact ht_)⟩⟩
    · have hlt : nI a < X.1 7 k 1 := by grind
      have ha : a < 5 := (nI_ltI (by omega) (by decide)).mp (show nI a < nI 5 by show nI a < (5 : Int32); grind)
      have hl : a < (X.1 7 k 1).toNatClampNeg := by
        have := cl_mono (x := nI a) (nI_pos' (by omega)) hlt
        rw [nI_clamp (by omega)] at this
        exact this
      refine ok_gd (nI_in ha (by decide)) (fun _ => ?_)
      rw [nI_clamp (by omega)]
      have hwY : WH (Y.1 2 i) (Y.1 1 i 2).toNatClampNeg := by rw [hf.fn (k := 2) (by omega) i, hf.1 1 i 2 (by omega)]; exact hw
      have hex := ex_eq hY 1 i (5 * k + a) hwY (pl := Y.1 2 i) (pn := Y.1 3 i) (inp := Y.1 5 (5 * k + a)) (exq := Y.1 6 (5 * k + a)) (fun _ _ => ⟨rfl, rfl⟩) (fun _ _ => rfl) (fun _ _ => rfl)
      refine ok_b1 (ok_and (ex_FB hY i (5 * k + a)) hex) (fun X8 v7 w => ?_)
      obtain ⟨⟨w1, w2⟩, wv, -⟩ := w
      simp only at w1 w2 wv
      have wv2 : v7 = CD X i (5 * k + a) := wv.trans (CD_FB hf i (5 * k + a))
      refine ok_ite (fun q => ?_) (fun q => ?_)
      · rw [nI_1]
        refine ih (a + 1) X8 (by omega) (by omega) (by rw [← nI_1]; grind) w1 (hf.trans w2) (fun t ht_ => ?_)
        by_cases y : t = a
        · rw [y, ← wv2]; exact q
        · exact hp t (by omega)
      · exact ok_some ⟨w1, hf.trans w2, Or.inr ⟨rfl, fun z => q (wv2.trans (z a hl))⟩⟩
theorem pg_eq {X : SS} (hX : OKS X) {i k : Nat} (hw : WH (X.1 2 i) (X.1 1 i 2).toNatClampNeg) : ok (f_X6_passesAll X i k) (fun r => OKS r.1 ∧ FB X r.1 ∧ ((r.2 = 1 ∧ ALLp X i k) ∨ (r.2 = 0 ∧ ¬ ALLp X i k))) := by
  have r7 : (0 : Int32) ≤ X.1 7 k 1 ∧ X.1 7 k 1 ≤ (5 : Int32) := hX.at1 7 k 1
  unfold f_X6_passesAll
  exact pg_L2 hw r7 1000 0 X (by omega) (by omega) r7.1 hX (FB.refl X) (fun t ht_ => absurd ht_ (by omega))
theorem vd_eq {X : SS} (hX : OKS X) {w : Nat} (hw : WH (X.1 2 (w + 1)) (X.1 1 (w + 1) 2).toNatClampNeg) : ok (f_X6_verdictOn X w) (fun r => OKS r.1 ∧ FB X r.1 ∧ r.2 = VD X (w + 1) (X.1 12 w 8).toNatClampNeg) := by
  have r8 : (0 : Int32) ≤ X.1 12 w 8 ∧ X.1 12 w 8 ≤ (7 : Int32) := hX.at1 12 w 8
  unfold f_X6_verdictOn
  refine ok_gd (vp_of (by decide) r8.1 (show X.1 12 w 8 < (8 : Int32) by grind)) (fun _ => ?_)
  refine ok_b1 (pg_eq hX hw) (fun X3 v2 q => ?_)
  obtain ⟨q1, q2, q3⟩ := q
  simp only at q1 q2 q3
  unfold VD
  rcases q3 with ⟨rfl, z⟩ | ⟨rfl, z⟩
  · exact ok_ite (fun y => absurd y (by decide)) (fun _ => ok_some ⟨q1, q2, by rw [if_pos z]⟩)
  · exact ok_ite (fun _ => ok_some ⟨q1, q2, by rw [if_neg z]⟩) (fun y => absurd rfl y)
