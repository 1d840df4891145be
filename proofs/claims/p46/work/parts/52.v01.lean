/-! isSound: both ways to take works leave the same row -/
def UA (X : SS) (w : Nat) : Int32 := if X.1 12 w 5 = 0 then 1 else X.1 12 w 6
def UU (X : SS) (w : Nat) : Int32 := if X.1 12 w 5 = 0 then 1 else X.1 12 w 5
def STY (X : SS) : Prop := ∀ w : Nat, w < 40 → (0 ≤ (UA X w).toInt ∧ (UA X w).toInt ≤ 300) ∧ (1 ≤ (UU X w).toInt ∧ (UU X w).toInt ≤ 60)
def CNT (X : SS) (w : Nat) : Prop := X.1 12 w 11 = 115 ∨ X.1 12 w 11 = 112 ∨ X.1 12 w 11 = 99
def CND (X : SS) (m : Int32) (k w : Nat) : Prop := X.1 12 w 7 = m ∧ CNT X w ∧ (X.1 12 w 8).toNatClampNeg = k
def GEs (X : SS) (b c : Nat) : Prop := (UA X c).toInt * (UU X b).toInt ≤ (UA X b).toInt * (UU X c).toInt
def GTs (X : SS) (b c : Nat) : Prop := (UA X c).toInt * (UU X b).toInt < (UA X b).toInt * (UU X c).toInt
/-- r is the first of the best among the works from a to z -/
def BST (X : SS) (m : Int32) (a z k : Nat) (r : Int32) : Prop := (r = -1 ∧ ∀ w, a ≤ w → w < z → ¬ CND X m k w) ∨ ∃ b, a ≤ b ∧ b < z ∧ r = nI b ∧ CND X m k b ∧ ∀ c, a ≤ c → c < z → CND X m k c → GEs X b c ∧ (c < b → GTs X b c)
theorem cm_le {ac ub ab uc ud ad : Int} (h1 : ac * ub ≤ ab * uc) (h2 : ab * ud ≤ ad * ub) (pb : 1 ≤ ub) (pc : 1 ≤ uc) (pd : 1 ≤ ud) : ac * ud ≤ ad * uc := by
  have e1 := Int.mul_le_mul_of_nonneg_right h1 (show 0 ≤ ud by omega)
  have e2 := Int.mul_le_mul_of_nonneg_right h2 (show 0 ≤ uc by omega)
  have e3 : ac * ud * ub ≤ ad * uc * ub := by
    have a1 : ac * ud * ub = ac * ub * ud := by ac_rfl
    have a2 : ad * uc * ub = ad * ub * uc := by ac_rfl
    have a3 : ab * uc * ud = ab * ud * uc := by ac_rfl
    omega
  exact Int.le_of_mul_le_mul_right e3 (by omega)
theorem cm_lt {ac ub ab uc ud ad : Int} (h1 : ac * ub ≤ ab * uc) (h2 : ab * ud < ad * ub) (pb : 1 ≤ ub) (pc : 1 ≤ uc) (pd : 1 ≤ ud) : ac * ud < ad * uc := by
  have e1 := Int.mul_le_mul_of_nonneg_right h1 (show 0 ≤ ud by omega)
  have e2 := Int.mul_lt_mul_of_pos_right h2 (show 0 < uc by omega)
  have e3 : ac * ud * ub < ad * uc * ub := by
    have a1 : ac * ud * ub = ac * ub * ud := by ac_rfl
    have a2 : ad * uc * ub = ad * ub * uc := by ac_rfl
    have a3 : ab * uc * ud = ab * ud * uc := by ac_rfl
    omega
  exact Int.lt_of_mul_lt_mul_right e3 (by omega)
theorem GE_refl (X : SS) (b : Nat) : GEs X b b := Int.le_refl _
theorem BST_one {X : SS} {m : Int32} {a z k : Nat} {r s : Int32} (h1 : BST X m a z k r) (h2 : BST X m a z k s) : r = s := by
  rcases h1 with ⟨rfl, n1⟩ | ⟨b, b1, b2, rfl, b3, b4⟩
  · rcases h2 with ⟨rfl, -⟩ | ⟨c, c1, c2, -, c3, -⟩
    · rfl
    · exact absurd c3 (n1 c c1 c2)
  · rcases h2 with ⟨-, n2⟩ | ⟨c, c1, c2, rfl, c3, c4⟩
    · exact absurd b3 (n2 b b1 b2)
    · rcases Nat.lt_trichotomy b c with q | q | q
      · have x1 := (b4 c c1 c2 c3).1
        have x2 := (c4 b b1 b2 b3).2 q
        unfold GEs at x1
        unfold GTs at x2
        omega
      · rw [q]
      · have x1 := (c4 b b1 b2 b3).1
        have x2 := (b4 c c1 c2 c3).2 q
        unfold GEs at x1
        unfold GTs at x2
        omega
theorem nI_inj2 {a b : Nat} (ha : a < 2 ^ 31) (hb : b < 2 ^ 31) (h : nI a = nI b) : a = b := by
  have e1 := nI_clamp ha
  rw [h, nI_clamp hb] at e1
  exact e1.symm
theorem nI_m1 {a : Nat} (ha : a < 2 ^ 31) : ¬ nI a = -1 := by
  intro z
  have h := nI_pos' ha
  rw [z] at h
  exact absurd h (by decide)
theorem BST_up {X : SS} (hS : STY X) {m : Int32} {v k : Nat} {r : Int32} (hv : v < 40) (h : BST X m 0 v k r) (hc : CND X m k v) (h2 : r = -1 ∨ ∃ b : Nat, b < v ∧ r = nI b ∧ GTs X v b) : BST X m 0 (v + 1) k (nI v) := by
  refine Or.inr ⟨v, Nat.zero_le _, by omega, rfl, hc, fun c _ hcv hcc => ?_⟩
  by_cases y : c = v
  · rw [y]; exact ⟨GE_refl X v, fun z => absurd z (by omega)⟩
  · rcases h with ⟨-, n1⟩ | ⟨b, -, b2, rb, b3, b4⟩
    · exact absurd hcc (n1 c (by omega) (by omega))
    · have hgt : GTs X v b := by
        rcases h2 with z | ⟨b', hb', z, g⟩
        · rw [rb] at z
          exact absurd z (nI_m1 (by omega))
        · rw [rb] at z
          have : b = b' := nI_inj2 (by omega) (by omega) z
          rw [this]; exact g
      have hge := (b4 c (by omega) (by omega) hcc).1
      have g : GTs X v c := cm_lt hge hgt (hS b (by omega)).2.1 (hS c (by omega)).2.1 (hS v hv).2.1
      exact ⟨by unfold GEs; unfold GTs at g; omega, fun _ => g⟩
theorem BST_up0 {X : SS} {m : Int32} {v k : Nat} {r : Int32} (hv : v < 40) (h : BST X m 0 v k r) (hc : CND X m k v → ∃ b : Nat, b < v ∧ r = nI b ∧ GEs X b v) : BST X m 0 (v + 1) k r := by
  by_cases y : CND X m k v
  · obtain ⟨b', hb', z, g⟩ := hc y
    rcases h with ⟨rfl, n1⟩ | ⟨b, b1, b2, rb, b3, b4⟩
    · exact absurd z.symm (nI_m1 (by omega))
    · refine Or.inr ⟨b, b1, by omega, rb, b3, fun c _ hcv hcc => ?_⟩
      by_cases w : c = v
      · have : b = b' := by
          rw [rb] at z
          exact nI_inj2 (by omega) (by omega) z
        rw [w, this]
        exact ⟨g, fun q => absurd q (by omega)⟩
      · exact b4 c (by omega) (by omega) hcc
  · rcases h with ⟨rfl, n1⟩ | ⟨b, b1, b2, rb, b3, b4⟩
    · refine Or.inl ⟨rfl, fun w _ hw => ?_⟩
      by_cases q : w = v
      · rw [q]; exact y
      · exact n1 w (by omega) (by omega)
    · refine Or.inr ⟨b, b1, by omega, rb, b3, fun c _ hcv hcc => ?_⟩
      by_cases w : c = v
      · rw [w] at hcc; exact absurd hcc y
      · exact b4 c (by omega) (by omega) hcc
theorem BST_dn {X : SS} (hS : STY X) {m : Int32} {v z k : Nat} {r : Int32} (hz : z ≤ 40) (hv : v < z) (h : BST X m (v + 1) z k r) (hc : CND X m k v) (h2 : r = -1 ∨ ∃ b : Nat, b < z ∧ r = nI b ∧ GEs X v b) : BST X m v z k (nI v) := by
  refine Or.inr ⟨v, Nat.le_refl _, hv, rfl, hc, fun c hvc hcz hcc => ?_⟩
  by_cases y : c = v
  · rw [y]; exact ⟨GE_refl X v, fun z => absurd z (by omega)⟩
  · rcases h with ⟨-, n1⟩ | ⟨b, b1, b2, rb, b3, b4⟩
    · exact absurd hcc (n1 c (by omega) (by omega))
    · have hge : GEs X v b := by
        rcases h2 with q | ⟨b', hb', q, g⟩
        · rw [rb] at q
          exact absurd q (nI_m1 (by omega))
        · rw [rb] at q
          have : b = b' := nI_inj2 (by omega) (by omega) q
          rw [this]; exact g
      have hg2 := (b4 c (by omega) (by omega) hcc).1
      exact ⟨cm_le hg2 hge (hS b (by omega)).2.1 (hS c (by omega)).2.1 (hS v (by omega)).2.1, fun q => absurd q (by omega)⟩
theorem BST_dn0 {X : SS} {m : Int32} {v z k : Nat} {r : Int32} (hz : z ≤ 40) (h : BST X m (v + 1) z k r) (hc : CND X m k v → ∃ b : Nat, b < z ∧ r = nI b ∧ GTs X b v) : BST X m v z k r := by
  by_cases y : CND X m k v
  · obtain ⟨b', hb', q, g⟩ := hc y
    rcases h with ⟨rfl, n1⟩ | ⟨b, b1, b2, rb, b3, b4⟩
    · exact absurd q.symm (nI_m1 (by omega))
    · have e : b = b' := by
        rw [rb] at q
        exact nI_inj2 (by omega) (by omega) q
      refine Or.inr ⟨b, by omega, b2, rb, b3, fun c hvc hcz hcc => ?_⟩
      by_cases w : c = v
      · rw [w, e]
        exact ⟨by unfold GEs; unfold GTs at g; omega, fun _ => g⟩
      · exact b4 c (by omega) (by omega) hcc
  · rcases h with ⟨rfl, n1⟩ | ⟨b, b1, b2, rb, b3, b4⟩
    · refine Or.inl ⟨rfl, fun w hw hw2 => ?_⟩
      by_cases q : w = v
      · rw [q]; exact y
      · exact n1 w (by omega) (by omega)
    · refine Or.inr ⟨b, by omega, b2, rb, b3, fun c hvc hcz hcc => ?_⟩
      by_cases w : c = v
      · rw [w] at hcc; exact absurd hcc y
      · exact b4 c (by omega) (by omega) hcc
