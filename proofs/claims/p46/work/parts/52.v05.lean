/-! the invariant -/
def WK (X : SS) : Nat := (X.1 0 0 11).toNatClampNeg
def nbX (X : SS) : Nat → Nat
  | 0 => 0
  | w + 1 => nbX X w + (if X.1 12 w 12 = 0 then 0 else 1)
theorem nbX_le (X : SS) : ∀ w : Nat, nbX X w ≤ w
  | 0 => Nat.le_refl _
  | w + 1 => by
    have := nbX_le X w
    unfold nbX
    split <;> omega
theorem nbX_cong {X Y : SS} : ∀ w : Nat, (∀ j, j < w → (Y.1 12 j 12 = 0 ↔ X.1 12 j 12 = 0)) → nbX Y w = nbX X w
  | 0, _ => rfl
  | w + 1, h => by
    unfold nbX
    rw [nbX_cong w (fun j hj => h j (by omega))]
    by_cases z : X.1 12 w 12 = 0
    · rw [if_pos z, if_pos ((h w (by omega)).mpr z)]
    · rw [if_neg z, if_neg (fun q => z ((h w (by omega)).mp q))]
/-- program i has the sum of work w, and is whole -/
def PRG (X : SS) (i w : Nat) : Prop := WH (X.1 2 i) (X.1 1 i 2).toNatClampNeg ∧ SM (X.1 2 i) (X.1 3 i) (X.1 1 i 2).toNatClampNeg = X.2.1 12 w 10
def BD1 (X : SS) (w : Nat) : Prop := ¬ X.1 12 w 12 = 0 → PRG X (w + 1) w ∧ X.1 12 w 11 = VD X (w + 1) (X.1 12 w 8).toNatClampNeg
def BOD (X : SS) : Prop := ∀ w : Nat, w < WK X → BD1 X w
def CPY (X : SS) : Prop := ∀ m : Nat, m < 10 → ∀ j : Nat, j < (X.1 9 m 2).toNatClampNeg → (0 : Int32) ≤ X.1 11 m j ∧ (X.1 11 m j).toNatClampNeg < WK X ∧ PRG X (X.2.2.1 10 m j) (X.1 11 m j).toNatClampNeg
def REF (X : SS) : Prop := ∀ m : Nat, m < 10 → (∀ j : Nat, j < 3 → 41 + 3 * m ≤ X.2.2.1 10 m j ∧ X.2.2.1 10 m j < 44 + 3 * m) ∧ ∀ a b : Nat, a < 3 → b < 3 → X.2.2.1 10 m a = X.2.2.1 10 m b → a = b
def ROM (X : SS) : Prop := nbX X (WK X) ≤ (X.1 0 0 13).toNatClampNeg
def INV0 (X : SS) : Prop := VOT X ∧ CPY X ∧ REF X ∧ CHA X
def INV (X : SS) : Prop := ROM X ∧ BOD X ∧ INV0 X
/-- cells that the invariant reads -/
def IC (k i p : Nat) : Prop := (k = 1 ∧ 1 ≤ i ∧ p = 2) ∨ (k = 2 ∧ 1 ≤ i) ∨ (k = 3 ∧ 1 ≤ i) ∨ (k = 4 ∧ i < 40 ∧ (p = 2 ∨ p = 3)) ∨ (k = 5 ∧ i < 40) ∨ (k = 6 ∧ i < 40) ∨ (k = 7 ∧ p = 1) ∨ (k = 9 ∧ p = 2) ∨ k = 11 ∨ (k = 12 ∧ (p = 5 ∨ p = 6 ∨ p = 8 ∨ p = 11 ∨ p = 12)) ∨ k = 14 ∨ k = 15 ∨ (k = 0 ∧ i = 0 ∧ (p = 11 ∨ p = 12 ∨ p = 13)) ∨ (k = 24 ∧ i = 0)
def KI (X Y : SS) : Prop := (∀ k i p : Nat, IC k i p → Y.1 k i p = X.1 k i p) ∧ (∀ w : Nat, Y.2.1 12 w 10 = X.2.1 12 w 10) ∧ ∀ m j : Nat, Y.2.2.1 10 m j = X.2.2.1 10 m j
theorem KI.fn {X Y : SS} (h : KI X Y) {k i : Nat} (hk : ∀ p, IC k i p) : Y.1 k i = X.1 k i := funext fun p => h.1 k i p (hk p)
theorem KI.refl (X : SS) : KI X X := ⟨fun _ _ _ _ => rfl, fun _ => rfl, fun _ _ => rfl⟩
theorem KI.trans {X Y Z : SS} (h : KI X Y) (h2 : KI Y Z) : KI X Z := ⟨fun k i p z => (h2.1 k i p z).trans (h.1 k i p z), fun w => (h2.2.1 w).trans (h.2.1 w), fun m j => (h2.2.2 m j).trans (h.2.2 m j)⟩
theorem FB.ki {X Y : SS} (h : FB X Y) : KI X Y := ⟨fun k i p z => h.1 k i p (by unfold IC at z; omega), fun w => h.2.1 12 w 10, fun m j => h.2.2 10 m j⟩
theorem FR.ki {X Y : SS} (h : FR X Y) : KI X Y := ⟨fun k i p z => h.1 k i p (by unfold IC at z; omega), fun w => by rw [h.2], fun m j => by rw [h.2]⟩
theorem KI.cd {X Y : SS} (h : KI X Y) {i t : Nat} (hi : 1 ≤ i) (ht_ : t < 40) : CD Y i t = CD X i t := by
  unfold CD
  rw [h.1 4 t 3 (by first | (simp [IC]; done) | (simp [IC]; omega)), h.1 4 t 2 (by first | (simp [IC]; done) | (simp [IC]; omega)), h.1 1 i 2 (by first | (simp [IC]; done) | (simp [IC]; omega)), h.fn (k := 6) (i := t) (fun p => by first | (simp [IC]; done) | (simp [IC]; omega)), h.fn (k := 5) (i := t) (fun p => by first | (simp [IC]; done) | (simp [IC]; omega)), h.fn (k := 2) (i := i) (fun p => by first | (simp [IC]; done) | (simp [IC]; omega)), h.fn (k := 3) (i := i) (fun p => by first | (simp [IC]; done) | (simp [IC]; omega))]
theorem VD_of {X Y : SS} {i j k : Nat} (h : ALLp Y j k ↔ ALLp X i k) : VD Y j k = VD X i k := by
  unfold VD
  by_cases z : ALLp X i k
  · rw [if_pos z, if_pos (h.mpr z)]
  · rw [if_neg z, if_neg (fun q => z (h.mp q))]
theorem KI.vd {X Y : SS} (hX : OKS X) (h : KI X Y) {i k : Nat} (hi : 1 ≤ i) (hk : k < 8) : VD Y i k = VD X i k := by
  have r7 : (0 : Int32) ≤ X.1 7 k 1 ∧ X.1 7 k 1 ≤ (5 : Int32) := hX.at1 7 k 1
  have h5 : (X.1 7 k 1).toNatClampNeg ≤ 5 := cl_le r7.2 (by decide)
  refine VD_of ⟨fun z t ht_ => ?_, fun z t ht_ => ?_⟩
  · rw [← h.cd hi (by omega)]
    exact z t (by rw [h.1 7 k 1 (by first | (simp [IC]; done) | (simp [IC]; omega))]; exact ht_)
  · rw [h.1 7 k 1 (by first | (simp [IC]; done) | (simp [IC]; omega))] at ht_
    rw [h.cd hi (by omega)]
    exact z t ht_
theorem KI.wk {X Y : SS} (h : KI X Y) : WK Y = WK X := by
  unfold WK
  rw [h.1 0 0 11 (by first | (simp [IC]; done) | (simp [IC]; omega))]
theorem KI.prg {X Y : SS} (h : KI X Y) {i w : Nat} (hi : 1 ≤ i) (hp : PRG X i w) : PRG Y i w := by
  unfold PRG
  rw [h.1 1 i 2 (by first | (simp [IC]; done) | (simp [IC]; omega)), h.fn (k := 2) (i := i) (fun p => by first | (simp [IC]; done) | (simp [IC]; omega)), h.fn (k := 3) (i := i) (fun p => by first | (simp [IC]; done) | (simp [IC]; omega)), h.2.1 w]
  exact hp
theorem k8_lt {X : SS} (hX : OKS X) (w : Nat) : (X.1 12 w 8).toNatClampNeg < 8 := by
  have r8 : (0 : Int32) ≤ X.1 12 w 8 ∧ X.1 12 w 8 ≤ (7 : Int32) := hX.at1 12 w 8
  exact cl_lt (vp_of (by decide) r8.1 (show X.1 12 w 8 < (8 : Int32) by grind))
theorem KI.bd1 {X Y : SS} (hX : OKS X) (h : KI X Y) {w : Nat} (hb : BD1 X w) : BD1 Y w := by
  intro z
  rw [h.1 12 w 12 (by first | (simp [IC]; done) | (simp [IC]; omega))] at z
  obtain ⟨h1, h2⟩ := hb z
  rw [h.1 12 w 11 (by first | (simp [IC]; done) | (simp [IC]; omega)), h.1 12 w 8 (by first | (simp [IC]; done) | (simp [IC]; omega)), h.vd hX (by omega) (k8_lt hX w)]
  exact ⟨h.prg (by omega) h1, h2⟩
theorem KI.bod {X Y : SS} (hX : OKS X) (h : KI X Y) (hb : BOD X) : BOD Y := by
  intro w hw
  rw [h.wk] at hw
  exact h.bd1 hX (hb w hw)
theorem KI.vot {X Y : SS} (h : KI X Y) (hv : VOT X) : VOT Y := by
  intro w hw
  obtain ⟨h1, h2, h3⟩ := hv w hw
  rw [h.1 12 w 5 (by first | (simp [IC]; done) | (simp [IC]; omega)), h.1 12 w 6 (by first | (simp [IC]; done) | (simp [IC]; omega)), sW_cong 10 (fun j _ => h.1 15 w j (by first | (simp [IC]; done) | (simp [IC]; omega))), sV_cong 10 (fun j _ => ⟨h.1 15 w j (by first | (simp [IC]; done) | (simp [IC]; omega)), h.1 14 w j (by first | (simp [IC]; done) | (simp [IC]; omega))⟩)]
  exact ⟨h1, h2, fun m hm => by rw [h.1 14 w m (by first | (simp [IC]; done) | (simp [IC]; omega)), h.1 15 w m (by first | (simp [IC]; done) | (simp [IC]; omega))]; exact h3 m hm⟩
theorem KI.ref {X Y : SS} (h : KI X Y) (hr : REF X) : REF Y := by
  intro m hm
  simp only [h.2.2]
  exact hr m hm
theorem ref_1 {X : SS} (hr : REF X) {m j : Nat} (hm : m < 10) (hj : j < 3) : 41 ≤ X.2.2.1 10 m j := by
  have := ((hr m hm).1 j hj).1
  omega
theorem c9_2 {X : SS} (hX : OKS X) (m : Nat) : (X.1 9 m 2).toNatClampNeg ≤ 3 := by
  have r : (0 : Int32) ≤ X.1 9 m 2 ∧ X.1 9 m 2 ≤ (3 : Int32) := hX.at1 9 m 2
  exact cl_le r.2 (by decide)
theorem KI.cpy {X Y : SS} (hX : OKS X) (h : KI X Y) (hr : REF X) (hc : CPY X) : CPY Y := by
  intro m hm j hj
  rw [h.1 9 m 2 (by first | (simp [IC]; done) | (simp [IC]; omega))] at hj
  have := c9_2 hX m
  have hr1 := ref_1 hr hm (show j < 3 by omega)
  rw [h.1 11 m j (by first | (simp [IC]; done) | (simp [IC]; omega)), h.2.2 m j, h.wk]
  obtain ⟨a, b, c⟩ := hc m hm j hj
  exact ⟨a, b, h.prg (by omega) c⟩
theorem KI.cha {X Y : SS} (h : KI X Y) (hc : CHA X) : CHA Y := by
  unfold CHA
  rw [h.1 0 0 11 (by first | (simp [IC]; done) | (simp [IC]; omega)), h.1 0 0 12 (by first | (simp [IC]; done) | (simp [IC]; omega)), c9_cong (X := X) (Y := Y) _ (fun j _ => by rw [h.1 12 j 11 (by first | (simp [IC]; done) | (simp [IC]; omega))])]
  refine ⟨fun a ha => ?_, fun a b ha hb => ?_, hc.2.2⟩
  · rw [h.1 24 0 a (by first | (simp [IC]; done) | (simp [IC]; omega)), h.1 12 _ 11 (by first | (simp [IC]; done) | (simp [IC]; omega))]
    exact hc.1 a ha
  · rw [h.1 24 0 a (by first | (simp [IC]; done) | (simp [IC]; omega)), h.1 24 0 b (by first | (simp [IC]; done) | (simp [IC]; omega))]
    exact hc.2.1 a b ha hb
theorem KI.rom {X Y : SS} (h : KI X Y) (hr : ROM X) : ROM Y := by
  unfold ROM
  rw [h.wk, h.1 0 0 13 (by first | (simp [IC]; done) | (simp [IC]; omega)), nbX_cong (X := X) (Y := Y) _ (fun j _ => by rw [h.1 12 j 12 (by first | (simp [IC]; done) | (simp [IC]; omega))])]
  exact hr
theorem KI.inv0 {X Y : SS} (hX : OKS X) (h : KI X Y) (hi : INV0 X) : INV0 Y := ⟨h.vot hi.1, h.cpy hX hi.2.2.1 hi.2.1, h.ref hi.2.2.1, h.cha hi.2.2.2⟩
theorem KI.inv {X Y : SS} (hX : OKS X) (h : KI X Y) (hi : INV X) : INV Y := ⟨h.rom hi.1, h.bod hX hi.2.1, h.inv0 hX hi.2.2⟩
/-! isSound answers 1 -/
theorem WK_40 {X : SS} (hX : OKS X) : WK X ≤ 40 := cl_le (n := 40) (hX.at1 0 0 11).2 (by decide)
theorem WK_n {X : SS} (hX : OKS X) : nI (WK X) = X.1 0 0 11 := cl_nI (show (0 : Int32) ≤ X.1 0 0 11 from (hX.at1 0 0 11).1)
theorem bcX_L4 {X : SS} (hX : OKS X) : ∀ (n v : Nat) (k : Int32 → Option Int32), 41 ≤ v + n → v ≤ WK X → f_X6_bodyCount_L4 X n (nI v) (nI (nbX X v)) k = k (nI (nbX X (WK X))) := by
  have hW := WK_40 hX
  have eW := WK_n hX
  intro n
  induction n with
  | zero => intro v k h1 h2; omega
  | succ n ih =>
    intro v k h1 h2
    rw [f_X6_bodyCount_L4]
    show (if X.1 0 0 11 ≤ nI v then k (nI (nbX X v)) else _) = _
    rw [← eW]
    by_cases c : nI (WK X) ≤ nI v
    · rw [if_pos c]
      rw [nI_leI (by omega) (by omega)] at c
      rw [show v = WK X by omega]
    · rw [if_neg c]
      rw [nI_leI (by omega) (by omega)] at c
      rw [gd_t (show vp_in (nI v) 40 from nI_in (by omega) (by decide)), nI_clamp (by omega), nI_1]
      have h := ih (v + 1) k (by omega) (by omega)
      have e0 : nbX X (v + 1) = nbX X v + (if X.1 12 v 12 = 0 then 0 else 1) := rfl
      by_cases z : X.1 12 v 12 = 0
      · rw [if_pos z, lq_e, Int32.add_zero]
        rw [if_pos z] at e0
        rw [e0] at h
        exact h
      · rw [if_neg z, lq_e, nI_1]
        rw [if_neg z] at e0
        rw [e0] at h
        exact h
theorem bcX {X : SS} (hX : OKS X) : f_X6_bodyCount X = some (nI (nbX X (WK X))) := by
  unfold f_X6_bodyCount
  exact bcX_L4 hX 1000 0 _ (by omega) (Nat.zero_le _)
theorem bs_L2 {X : SS} (hX : OKS X) (hb : BOD X) : ∀ (n v : Nat) (Y : SS), 41 ≤ v + n → v ≤ WK X → OKS Y → FB X Y → ok (f_X6_areBodiesSound_L2 n (nI v) Y (fun X2 => some (X2, (1 : Int32)))) (fun r => r.2 = 1 ∧ OKS r.1 ∧ FB X r.1) := by
  have hW := WK_40 hX
  intro n
  induction n with
  | zero => intro v Y h1 h2; omega
  | succ n ih =>
    intro v Y h1 h2 hY hf
    have eW := WK_n hY
    rw [hf.ki.wk] at eW
    rw [f_X6_areBodiesSound_L2]
    show ok (if Y.1 0 0 11 ≤ nI v then some (Y, (1 : Int32)) else _) _
    rw [← eW]
    refine ok_ite (fun c => ok_some ⟨rfl, hY, hf⟩) (fun c => ?_)
    rw [nI_leI (by omega) (by omega)] at c
    refine ok_gd (nI_in (by omega) (by decide)) (fun _ => ?_)
    rw [nI_clamp (by omega), nI_1]
    refine ok_ite (fun z => ih (v + 1) Y (by omega) (by omega) hY hf) (fun z => ?_)
    obtain ⟨⟨p1, p2⟩, p3⟩ := hf.ki.bd1 hX (hb v (by omega)) z
    refine ok_b0e (sx_eq hY (v + 1)) ?_
    rw [p2]
    refine ok_ite (fun _ => ?_) (fun q => absurd (lg_self _) q)
    refine ok_b1 (vd_eq hY p1) (fun X12 v11 w => ?_)
    obtain ⟨w1, w2, w3⟩ := w
    simp only at w1 w2 w3
    refine ok_ite (fun _ => ih (v + 1) X12 (by omega) (by omega) w1 (hf.trans w2)) (fun q => absurd (p3.trans w3.symm) q)
theorem sound_1 {X : SS} (hX : OKS X) (hi : INV X) : ok (f_X6_isSound X) (fun r => r.2 = 1 ∧ OKS r.1 ∧ INV r.1) := by
  have r13 : (0 : Int32) ≤ X.1 0 0 13 ∧ X.1 0 0 13 ≤ (40 : Int32) := hX.at1 0 0 13
  unfold f_X6_isSound
  refine ok_b0e (bcX hX) ?_
  refine ok_ite (fun z => absurd z ?_) (fun _ => ?_)
  · have h1 := hi.1
    have hb := nbX_le X (WK X)
    have hW := WK_40 hX
    have h40 : (X.1 0 0 13).toNatClampNeg ≤ 40 := cl_le r13.2 (by decide)
    unfold ROM at h1
    rw [← cl_nI r13.1]
    intro q
    rw [nI_ltI (by omega) (by omega)] at q
    omega
  · unfold f_X6_areBodiesSound
    refine ok_b1 (bs_L2 hX hi.2.1 1000 0 X (by omega) (Nat.zero_le _) hX (FB.refl X)) (fun X5 v4 w => ?_)
    obtain ⟨w1, w2, w3⟩ := w
    simp only at w1 w2 w3
    refine ok_ite (fun z => absurd (w1.symm.trans z) (by decide)) (fun _ => ?_)
    have i5 := w3.ki.inv hX hi
    refine ok_b1 (belts_eq w2 i5.2.2.1) (fun X9 v8 y => ?_)
    obtain ⟨y1, y2, y3⟩ := y
    simp only at y1 y2 y3
    refine ok_ite (fun z => absurd (y1.symm.trans z) (by decide)) (fun _ => ?_)
    have i9 := y3.ki.inv w2 i5
    refine ok_b0e (ch_eq2 y2 i9.2.2.2.2.2) ?_
    exact ok_ite (fun z => absurd z (by decide)) (fun _ => ok_some ⟨rfl, y2, i9⟩)
