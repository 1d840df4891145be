/-! the reference's machine -/
def AR : Nat → Nat → Nat → Prop := fun k _ p => k = 53 ∨ k = 54 ∨ (k = 26 ∧ (p = 38 ∨ p = 39 ∨ p = 40))
def rM (M : SS) (σ : MS) : Prop := M.1 26 0 38 = σ.1 ∧ M.1 26 0 39 = σ.2.2.1 ∧ M.1 26 0 40 = σ.2.2.2.2.1 ∧ (∀ j : Nat, j < σ.1.toNatClampNeg → M.1 53 0 j = σ.2.1 j) ∧ ∀ j : Nat, j < σ.2.2.1.toNatClampNeg → M.1 54 0 j = σ.2.2.2.1 j
def eM (M : SS) (p q : Nat) (len : Int32) (pl pn : Nat → Int32) (ic : Int32) (inp : Nat → Int32) (ec : Int32) (exq : Nat → Int32) : Prop :=
  M.1 29 0 p = len ∧ (∀ a : Nat, a < len.toNatClampNeg → M.1 27 0 (24 * p + a) = pl a ∧ M.1 28 0 (24 * p + a) = pn a) ∧ M.1 34 0 q = ic ∧ (∀ j : Nat, j < ic.toNatClampNeg → M.1 36 0 (4 * q + j) = inp j) ∧ M.1 35 0 q = ec ∧ ∀ j : Nat, j < ec.toNatClampNeg → M.1 37 0 (6 * q + j) = exq j
theorem eM_keep {M Y : SS} {p q : Nat} {len : Int32} {pl pn : Nat → Int32} {ic : Int32} {inp : Nat → Int32} {ec : Int32} {exq : Nat → Int32} (h : eM M p q len pl pn ic inp ec exq) (hk : IV AR M Y) : eM Y p q len pl pn ic inp ec exq := by
  have k1 := fun i p => hk.same (k := 27) (i := i) (p := p) (by simp [AR])
  have k2 := fun i p => hk.same (k := 28) (i := i) (p := p) (by simp [AR])
  have k3 := fun i p => hk.same (k := 29) (i := i) (p := p) (by simp [AR])
  have k4 := fun i p => hk.same (k := 34) (i := i) (p := p) (by simp [AR])
  have k5 := fun i p => hk.same (k := 35) (i := i) (p := p) (by simp [AR])
  have k6 := fun i p => hk.same (k := 36) (i := i) (p := p) (by simp [AR])
  have k7 := fun i p => hk.same (k := 37) (i := i) (p := p) (by simp [AR])
  unfold eM at *
  simp only [k1, k2, k3, k4, k5, k6, k7]
  exact h
theorem ix_lin {p v : Nat} (m : Nat) (hm : m ≤ 100) (hp : p ≤ 40) (hv : v < 24) : (nI m * nI p) + nI v = nI (m * p + v) ∧ ((nI m * nI p) + nI v).toNatClampNeg = m * p + v := by
  have h1 : m * p ≤ 100 * 40 := Nat.mul_le_mul hm hp
  have e : (nI m * nI p) + nI v = nI (m * p + v) := by rw [pk_mul, nI_add]
  exact ⟨e, by rw [e, nI_clamp (by omega)]⟩
theorem needs_eq {c : Int32} (h : isL c) : f_X7_needs c = some (ndA c) := by
  rcases h with h | h | h | h | h | h | h | h | h | h | h | h <;> (subst h; rfl)
theorem pt_in {M : SS} {p : Nat} (hp : p ≤ 40) {len : Nat} (hl : len ≤ 24) (hz : M.1 29 0 p = nI len) {k : Nat} (hk : k < len) (dir : Int32) (n : Nat) (op : Int32) (kk : Unit → Option Int32) : f_X7_partner_L6 (nI p) M dir (n + 1) (nI k) op kk =
    (if M.1 27 0 (24 * p + k) = 91 then (if op + 1 = 0 then some (nI k) else f_X7_partner_L6 (nI p) M dir n (nI k + dir) (op + 1) kk) else if M.1 27 0 (24 * p + k) = 93 then (if op + (-1) = 0 then some (nI k) else f_X7_partner_L6 (nI p) M dir n (nI k + dir) (op + (-1)) kk) else (if op + 0 = 0 then some (nI k) else f_X7_partner_L6 (nI p) M dir n (nI k + dir) (op + 0) kk)) := by
  rw [f_X7_partner_L6]
  show gd (vp_in (nI p) 41) _ = _
  have hix := ix_lin (p := p) (v := k) 24 (by decide) hp (by omega)
  have hv : vp_in (((24 : Int32) * nI p) + nI k) 984 := by
    rw [show (24 : Int32) = nI 24 from rfl, hix.1]
    exact nI_in (by omega) (by decide)
  have e1 : M.1 29 0 p - 1 = nI (len - 1) := by
    rw [hz]
    obtain ⟨l, rfl⟩ : ∃ l, len = l + 1 := ⟨len - 1, by omega⟩
    rw [nI_pred]
    rfl
  rw [gd_t (show vp_in (nI p) 41 from nI_in (by omega) (by decide)), in_eq, nI_clamp (by omega), e1, if_neg (fun z => z.elim (nI_pos (by omega)) (nI_nlt (by omega) (by omega))), b0_some, if_neg (by decide), gd_t hv]
  rw [show (((24 : Int32) * nI p) + nI k).toNatClampNeg = 24 * p + k from hix.2]
  by_cases c1 : M.1 27 0 (24 * p + k) = 91
  · rw [if_pos c1, if_pos c1]
    rfl
  · rw [if_neg c1, if_neg c1, gd_t hv]
    by_cases c2 : M.1 27 0 (24 * p + k) = 93
    · rw [if_pos c2, if_pos c2]
      unfold f_X7_partner_J68
      rw [lq_e]
      by_cases c3 : op + (-1) = 0
      · rw [if_pos c3, if_pos c3]
      · rw [if_neg c3, if_neg c3, lq_e]
    · rw [if_neg c2, if_neg c2]
      rfl
theorem pt_fwd {M : SS} {p : Nat} (hp : p ≤ 40) {len : Nat} (hl : len ≤ 24) (hz : M.1 29 0 p = nI len) {pl : Nat → Int32} (hpl : ∀ a : Nat, a < len → M.1 27 0 (24 * p + a) = pl a) {a c : Nat} (hm : MT pl a c) (hc : c < len) (kk : Unit → Option Int32) : ∀ (n k h : Nat), c + 1 ≤ k + n → a ≤ k → k ≤ c → ht pl k = ht pl a + h → f_X7_partner_L6 (nI p) M 1 n (nI k) (nI h) kk = some (nI c) := by
  intro n
  induction n with
  | zero => intro k h h1 h2 h3; omega
  | succ n ih =>
    intro k h h1 h2 h3 h4
    have hle := ht_le pl k
    have hle2 := ht_le pl a
    have hs : ht pl (k + 1) = ht pl k + bk (pl k) := rfl
    have hpos : a < k → 0 < h := fun z => by have := hm.2.2.1 k z h3; omega
    rw [pt_in hp hl hz (by omega), hpl k (by omega)]
    by_cases c1 : pl k = 91
    · have hkc : k ≠ c := by
        intro z
        have := hm.2.2.2.2
        rw [← z, c1] at this
        exact absurd this (by decide)
      rw [bk_o c1] at hs
      rw [if_pos c1, nI_1, if_neg (nI_ne0 (by omega) (by omega)), nI_1]
      exact ih (k + 1) (h + 1) (by omega) (by omega) (by omega) (by omega)
    · have hak : a < k := by
        rcases Nat.lt_or_ge a k with z | z
        · exact z
        · have : k = a := by omega
          subst this
          exact absurd hm.2.2.2.1 c1
      have h0 := hpos hak
      obtain ⟨h', rfl⟩ : ∃ h', h = h' + 1 := ⟨h - 1, by omega⟩
      rw [if_neg c1]
      by_cases c2 : pl k = 93
      · rw [bk_c c2] at hs
        rw [if_pos c2, pk_m1]
        by_cases z : h' = 0
        · subst z
          have : k = c := by
            rcases Nat.lt_or_ge k c with y | y
            · have := hm.2.2.1 (k + 1) (by omega) (by omega)
              omega
            · omega
          rw [if_pos nI_0, this]
        · have hkc : k ≠ c := by
            intro y
            have := hm.2.1
            rw [← y] at this
            omega
          rw [if_neg (nI_ne0 (by omega) (by omega)), nI_1]
          exact ih (k + 1) h' (by omega) (by omega) (by omega) (by omega)
      · have hkc : k ≠ c := fun y => c2 (by rw [y]; exact hm.2.2.2.2)
        rw [bk_0 c1 c2] at hs
        rw [if_neg c2, Int32.add_zero, if_neg (nI_ne0 (by omega) (by omega)), nI_1]
        exact ih (k + 1) (h' + 1) (by omega) (by omega) (by omega) (by omega)
theorem pt_bwd {M : SS} {p : Nat} (hp : p ≤ 40) {len : Nat} (hl : len ≤ 24) (hz : M.1 29 0 p = nI len) {pl : Nat → Int32} (hpl : ∀ a : Nat, a < len → M.1 27 0 (24 * p + a) = pl a) {a c : Nat} (hm : MT pl a c) (hc : c < len) (kk : Unit → Option Int32) : ∀ (n k h : Nat), k + 1 ≤ a + n → a ≤ k → k ≤ c → ht pl (k + 1) = ht pl a + h → f_X7_partner_L6 (nI p) M (-1) n (nI k) (-(nI h)) kk = some (nI a) := by
  intro n
  induction n with
  | zero => intro k h h1 h2 h3; omega
  | succ n ih =>
    intro k h h1 h2 h3 h4
    have hle := ht_le pl (k + 1)
    have hle2 := ht_le pl a
    have hs : ht pl (k + 1) = ht pl k + bk (pl k) := rfl
    have eu : ∀ x : Nat, -(nI x) + (-1) = -(nI (x + 1)) := fun x => by rw [← nI_1]; grind
    have ed : ∀ x : Nat, -(nI (x + 1)) + 1 = -(nI x) := fun x => by rw [← nI_1]; grind
    have en : ∀ x : Nat, 0 < x → x < 100 → ¬ -(nI x) = 0 := fun x h0 h1 z => nI_ne0 h0 (show x < 2 ^ 31 by omega) (by grind)
    have hstep : a < k → ∃ k', k = k' + 1 ∧ nI k + (-1) = nI k' := fun z => by
      obtain ⟨k', rfl⟩ : ∃ k', k = k' + 1 := ⟨k - 1, by omega⟩
      exact ⟨k', rfl, pk_m1 k'⟩
    rw [pt_in hp hl hz (by omega), hpl k (by omega)]
    by_cases c1 : pl k = 91
    · rw [bk_o c1] at hs
      have hk0 : 0 < h := by
        rcases Nat.lt_or_ge k c with y | y
        · have := hm.2.2.1 (k + 1) (by omega) (by omega)
          omega
        · have : k = c := by omega
          subst this
          have := hm.2.2.2.2
          rw [c1] at this
          exact absurd this (by decide)
      obtain ⟨h', rfl⟩ : ∃ h', h = h' + 1 := ⟨h - 1, by omega⟩
      rw [if_pos c1, ed]
      by_cases z : h' = 0
      · subst z
        have : k = a := by
          rcases Nat.lt_or_ge a k with y | y
          · have := hm.2.2.1 k y h3
            omega
          · omega
        rw [if_pos (by decide), this]
      · have hak : a < k := by
          rcases Nat.lt_or_ge a k with y | y
          · exact y
          · have : k = a := by omega
            subst this
            omega
        obtain ⟨k', rfl, ek⟩ := hstep hak
        rw [if_neg (en _ (by omega) (by omega)), ek]
        exact ih k' h' (by omega) (by omega) (by omega) (by omega)
    · have hak : a < k := by
        rcases Nat.lt_or_ge a k with z | z
        · exact z
        · have : k = a := by omega
          subst this
          exact absurd hm.2.2.2.1 c1
      have hgt := hm.2.2.1 k hak h3
      obtain ⟨k', rfl, ek⟩ := hstep hak
      rw [if_neg c1]
      by_cases c2 : pl (k' + 1) = 93
      · rw [bk_c c2] at hs
        rw [if_pos c2, eu, if_neg (en _ (by omega) (by omega)), ek]
        exact ih k' (h + 1) (by omega) (by omega) (by omega) (by omega)
      · rw [bk_0 c1 c2] at hs
        rw [if_neg c2, Int32.add_zero, if_neg (en _ (by omega) (by omega)), ek]
        exact ih k' h (by omega) (by omega) (by omega) (by omega)
