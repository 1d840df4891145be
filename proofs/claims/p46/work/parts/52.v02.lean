/-! the two loops over the works -/
def FR (X Y : SS) : Prop := (∀ k i p : Nat, ¬ (k = 25 ∧ i = 0 ∧ p < 8) → Y.1 k i p = X.1 k i p) ∧ Y.2 = X.2
theorem FR.refl (X : SS) : FR X X := ⟨fun _ _ _ _ => rfl, rfl⟩
theorem FR.trans {X Y Z : SS} (h : FR X Y) (h2 : FR Y Z) : FR X Z := ⟨fun k i p z => (h2.1 k i p z).trans (h.1 k i p z), h2.2.trans h.2⟩
theorem FR.up {X Y : SS} (h : FR X Y) {k : Nat} (hk : k < 8) (x : Int32) : FR X (u1 Y 25 0 k x) := by
  refine ⟨fun a b c z => ?_, h.2⟩
  rw [up_e, if_neg (fun q => z ⟨q.1, q.2.1, by omega⟩)]
  exact h.1 a b c z
theorem FR.eq {X Y Z : SS} (h : FR X Y) (h2 : FR X Z) (h3 : ∀ k : Nat, k < 8 → Y.1 25 0 k = Z.1 25 0 k) : Y = Z := by
  refine Prod.ext (funext fun k => funext fun i => funext fun p => ?_) (h.2.trans h2.2.symm)
  by_cases z : k = 25 ∧ i = 0 ∧ p < 8
  · obtain ⟨rfl, rfl, z3⟩ := z
    exact h3 p z3
  · rw [h.1 k i p z, h2.1 k i p z]
theorem ic_t {X : SS} {w : Nat} (h : CNT X w) : f_X5_isCounted X w = some 1 := by
  unfold f_X5_isCounted
  by_cases a : X.1 12 w 11 = 115
  · rw [if_pos a]
  · rw [if_neg a]
    by_cases b : X.1 12 w 11 = 112
    · rw [if_pos b]
    · rw [if_neg b, if_pos (h.elim (fun z => absurd z a) (fun z => z.elim (fun z => absurd z b) id))]
theorem ic_f {X : SS} {w : Nat} (h : ¬ CNT X w) : f_X5_isCounted X w = some 0 := by
  unfold f_X5_isCounted
  rw [if_neg (fun z => h (Or.inl z)), if_neg (fun z => h (Or.inr (Or.inl z))), if_neg (fun z => h (Or.inr (Or.inr z)))]
theorem mul_in {a b : Int32} (ha : 0 ≤ a.toInt ∧ a.toInt ≤ 300) (hb : 1 ≤ b.toInt ∧ b.toInt ≤ 60) : (a * b).toInt = a.toInt * b.toInt := by
  have h1 : 0 ≤ a.toInt * b.toInt := Int.mul_nonneg ha.1 (by omega)
  have h2 : a.toInt * b.toInt ≤ 300 * 60 := Int.mul_le_mul ha.2 hb.2 (by omega) (by omega)
  rw [Int32.toInt_mul]
  apply Int.bmod_eq_of_le <;> omega
theorem hg_e {X : SS} (hS : STY X) {b c : Nat} (hb : b < 40) (hc : c < 40) : f_X5_hasGreaterStyleThan X b c = some (@ite _ (GTs X b c) (Classical.propDecidable _) 1 0) := by
  have e1 : ∀ w, f_X5_styleAbove X w = some (UA X w) := fun w => by
    unfold f_X5_styleAbove UA
    split <;> rfl
  have e2 : ∀ w, f_X5_styleUnder X w = some (UU X w) := fun w => by
    unfold f_X5_styleUnder UU
    split <;> rfl
  unfold f_X5_hasGreaterStyleThan
  rw [e1, e2, e1, e2, b0_some, b0_some, b0_some, b0_some]
  have m1 := mul_in (hS b hb).1 (hS c hc).2
  have m2 := mul_in (hS c hc).1 (hS b hb).2
  by_cases g : GTs X b c
  · rw [if_pos g, if_neg]
    rw [Int32.le_iff_toInt_le, m1, m2]
    unfold GTs at g
    omega
  · rw [if_neg g, if_pos]
    rw [Int32.le_iff_toInt_le, m1, m2]
    unfold GTs at g
    omega
theorem hg_fr {X Y : SS} (h : FR X Y) (b c : Nat) : f_X5_hasGreaterStyleThan Y b c = f_X5_hasGreaterStyleThan X b c := by
  unfold f_X5_hasGreaterStyleThan f_X5_styleAbove f_X5_styleUnder
  rw [h.1 12 b 5 (by simp), h.1 12 b 6 (by simp), h.1 12 c 5 (by simp), h.1 12 c 6 (by simp)]
theorem ic_fr {X Y : SS} (h : FR X Y) (w : Nat) : f_X5_isCounted Y w = f_X5_isCounted X w := by
  unfold f_X5_isCounted
  rw [h.1 12 w 11 (by simp)]
theorem tn_L2 {X : SS} {P : SS × Unit → Prop} : ∀ (n v : Nat) (X4 : SS) (k1 : SS → Option (SS × Unit)), 9 ≤ v + n → v ≤ 8 → FR X X4 → (∀ k : Nat, k < v → X4.1 25 0 k = -1) → (∀ X5 : SS, FR X X5 → (∀ k : Nat, k < 8 → X5.1 25 0 k = -1) → ok (k1 X5) P) → ok (f_X6_takeNone_L2 n (nI v) X4 k1) P := by
  intro n
  induction n with
  | zero => intro v X4 k1 h1 h2; omega
  | succ n ih =>
    intro v X4 k1 h1 h2 hf hb hk
    rw [f_X6_takeNone_L2]
    refine ok_ite (fun c => ?_) (fun c => ?_)
    · have h8 : v = 8 := by
        have : nI 8 ≤ nI v := c
        rw [nI_leI (by omega) (by omega)] at this
        omega
      subst h8
      exact hk X4 hf hb
    · have h8 : v < 8 := by
        have : ¬ nI 8 ≤ nI v := c
        rw [nI_leI (by omega) (by omega)] at this
        omega
      refine ok_gd (nI_in h8 (by decide)) (fun _ => ?_)
      rw [lq_e, nI_clamp (by omega), nI_1]
      refine ih (v + 1) _ k1 (by omega) (by omega) (hf.up h8 _) (fun k hk2 => ?_) hk
      by_cases y : k = v
      · rw [y, up_s]
      · rw [up_p y]
        exact hb k (by omega)
theorem tn_eq (X : SS) : ok (f_X6_takeNone X) (fun r => FR X r.1 ∧ ∀ k : Nat, k < 8 → r.1.1 25 0 k = -1) := by
  unfold f_X6_takeNone
  exact tn_L2 1000 0 X _ (by omega) (by omega) (FR.refl X) (fun k hk => absurd hk (by omega)) (fun X5 h1 h2 => ok_some ⟨h1, h2⟩)
theorem tw_L6 {X : SS} (hX : OKS X) (hS : STY X) (m : Int32) {P : SS × Unit → Prop} : ∀ (n v : Nat) (X7 : SS) (k4 : SS → Option (SS × Unit)), 41 ≤ v + n → v ≤ (X.1 0 0 11).toNatClampNeg → FR X X7 → (∀ k : Nat, k < 8 → BST X m 0 v k (X7.1 25 0 k)) → (∀ X5 : SS, FR X X5 → (∀ k : Nat, k < 8 → BST X m 0 (X.1 0 0 11).toNatClampNeg k (X5.1 25 0 k)) → ok (k4 X5) P) → ok (f_X6_takeWorks_L6 m n (nI v) X7 k4) P := by
  have r11 : (0 : Int32) ≤ X.1 0 0 11 ∧ X.1 0 0 11 ≤ (40 : Int32) := hX.at1 0 0 11
  have eW := cl_nI r11.1
  have hW : (X.1 0 0 11).toNatClampNeg ≤ 40 := cl_le r11.2 (by decide)
  intro n
  induction n with
  | zero => intro v X7 k4 h1 h2; omega
  | succ n ih =>
    intro v X7 k4 h1 h2 hf hb hk
    have h11 : X7.1 0 0 11 = nI (X.1 0 0 11).toNatClampNeg := by rw [hf.1 0 0 11 (by simp), eW]
    rw [f_X6_takeWorks_L6]
    show ok (if X7.1 0 0 11 ≤ nI v then k4 X7 else _) P
    rw [h11]
    refine ok_ite (fun c => ?_) (fun c => ?_)
    · rw [nI_leI (by omega) (by omega)] at c
      have e : v = (X.1 0 0 11).toNatClampNeg := by omega
      rw [e] at hb
      exact hk X7 hf hb
    · rw [nI_leI (by omega) (by omega)] at c
      have hv40 : v < 40 := by omega
      refine ok_gd (nI_in hv40 (by decide)) (fun _ => ?_)
      rw [nI_clamp (by omega), hf.1 12 v 7 (by simp), hf.1 12 v 8 (by simp), nI_1]
      have r8 : (0 : Int32) ≤ X.1 12 v 8 ∧ X.1 12 v 8 ≤ (7 : Int32) := hX.at1 12 v 8
      have hk8 : vp_in (X.1 12 v 8) 8 := vp_of (by decide) r8.1 (show X.1 12 v 8 < (8 : Int32) by grind)
      have hkk := cl_lt hk8
      have stay : ¬ CND X m (X.1 12 v 8).toNatClampNeg v → ok (f_X6_takeWorks_L6 m n (nI (v + 1)) X7 k4) P := fun hn =>
        ih (v + 1) X7 k4 (by omega) (by omega) hf (fun k hk2 => BST_up0 hv40 (hb k hk2) (fun c => absurd ⟨c.1, c.2.1, rfl⟩ hn)) hk
      refine ok_ite (fun q => ?_) (fun q => stay (fun z => q z.1))
      by_cases hc : CNT X v
      · refine ok_b0e ((ic_fr hf v).trans (ic_t hc)) ?_
        refine ok_ite (fun z => absurd z (by decide)) (fun _ => ?_)
        refine ok_gd hk8 (fun _ => ?_)
        rw [lq_e]
        have hcnd : CND X m (X.1 12 v 8).toNatClampNeg v := ⟨q, hc, rfl⟩
        have put : (X7.1 25 0 (X.1 12 v 8).toNatClampNeg = -1 ∨ ∃ b : Nat, b < v ∧ X7.1 25 0 (X.1 12 v 8).toNatClampNeg = nI b ∧ GTs X v b) → ok (f_X6_takeWorks_L6 m n (nI (v + 1)) (u1 X7 25 0 (X.1 12 v 8).toNatClampNeg (nI v)) k4) P := fun hp =>
          ih (v + 1) _ k4 (by omega) (by omega) (hf.up hkk _) (fun k hk2 => by
            by_cases y : k = (X.1 12 v 8).toNatClampNeg
            · rw [y, up_s]
              exact BST_up hS hv40 (hb _ hkk) hcnd hp
            · rw [up_p y]
              exact BST_up0 hv40 (hb k hk2) (fun c => absurd c.2.2.symm y)) hk
        refine ok_ite (fun r1 => ?_) (fun r1 => ?_)
        · refine ok_gd hk8 (fun _ => ?_)
          rw [lq_e]
          exact put (Or.inl r1)
        · rcases hb _ hkk with ⟨z, -⟩ | ⟨b, -, b2, rb, b3, b4⟩
          · exact absurd z r1
          · rw [rb]
            refine ok_gd (nI_in (show b < 40 by omega) (by decide)) (fun _ => ?_)
            rw [nI_clamp (show b < 2 ^ 31 by omega)]
            refine ok_b0e ((hg_fr hf v b).trans (hg_e hS hv40 (by omega))) ?_
            by_cases g : GTs X v b
            · rw [if_pos g]
              refine ok_ite (fun z => absurd z (by decide)) (fun _ => ok_gd hk8 (fun _ => ?_))
              rw [lq_e]
              exact put (Or.inr ⟨b, b2, rb, g⟩)
            · rw [if_neg g]
              refine ok_ite (fun _ => ?_) (fun z => absurd rfl z)
              refine ih (v + 1) X7 k4 (by omega) (by omega) hf (fun k hk2 => BST_up0 hv40 (hb k hk2) (fun c => ?_)) hk
              have ek : k = (X.1 12 v 8).toNatClampNeg := c.2.2.symm
              exact ⟨b, b2, by rw [ek]; exact rb, by unfold GEs; unfold GTs at g; omega⟩
      · refine ok_b0e ((ic_fr hf v).trans (ic_f hc)) ?_
        exact ok_ite (fun _ => stay (fun z => hc z.2.1)) (fun z => absurd rfl z)
theorem tw_eq {X : SS} (hX : OKS X) (hS : STY X) (m : Int32) : ok (f_X6_takeWorks X m) (fun r => FR X r.1 ∧ ∀ k : Nat, k < 8 → BST X m 0 (X.1 0 0 11).toNatClampNeg k (r.1.1 25 0 k)) := by
  unfold f_X6_takeWorks
  refine ok_b1 (tn_eq X) (fun X2 v1 w => ?_)
  exact tw_L6 hX hS m 1000 0 X2 _ (by omega) (Nat.zero_le _) w.1 (fun k hk => Or.inl ⟨w.2 k hk, fun a _ z => absurd z (by omega)⟩) (fun X5 h1 h2 => ok_some ⟨h1, h2⟩)
theorem bb_L11 {X : SS} (hX : OKS X) (hS : STY X) (m : Int32) {P : SS × Int32 → Prop} : ∀ (n v : Nat) (X8 : SS) (k5 : SS → Option (SS × Int32)), v + 1 ≤ n → v ≤ (X.1 0 0 11).toNatClampNeg → FR X X8 → (∀ k : Nat, k < 8 → BST X m v (X.1 0 0 11).toNatClampNeg k (X8.1 25 0 k)) → (∀ X5 : SS, FR X X5 → (∀ k : Nat, k < 8 → BST X m 0 (X.1 0 0 11).toNatClampNeg k (X5.1 25 0 k)) → ok (k5 X5) P) → ok (f_X6_beltFromBehind_L11 m n (nI v - 1) X8 k5) P := by
  have r11 : (0 : Int32) ≤ X.1 0 0 11 ∧ X.1 0 0 11 ≤ (40 : Int32) := hX.at1 0 0 11
  have hW : (X.1 0 0 11).toNatClampNeg ≤ 40 := cl_le r11.2 (by decide)
  intro n
  induction n with
  | zero => intro v X8 k5 h1; omega
  | succ n ih =>
    intro v X8 k5 h1 h2 hf hb hk
    rw [f_X6_beltFromBehind_L11]
    cases v with
    | zero => exact ok_ite (fun _ => hk X8 hf hb) (fun z => absurd (show (nI 0 - 1 : Int32) < 0 by decide) z)
    | succ v =>
      rw [nI_pred]
      have hv40 : v < 40 := by omega
      refine ok_ite (fun z => absurd z (by
        have := nI_pos' (n := v) (by omega)
        grind)) (fun _ => ?_)
      refine ok_gd (nI_in hv40 (by decide)) (fun _ => ?_)
      rw [nI_clamp (by omega), hf.1 12 v 7 (by simp), hf.1 12 v 8 (by simp), show nI v + (-1 : Int32) = nI v - 1 by grind]
      have r8 : (0 : Int32) ≤ X.1 12 v 8 ∧ X.1 12 v 8 ≤ (7 : Int32) := hX.at1 12 v 8
      have hk8 : vp_in (X.1 12 v 8) 8 := vp_of (by decide) r8.1 (show X.1 12 v 8 < (8 : Int32) by grind)
      have hkk := cl_lt hk8
      have stay : ¬ CND X m (X.1 12 v 8).toNatClampNeg v → ok (f_X6_beltFromBehind_L11 m n (nI v - 1) X8 k5) P := fun hn =>
        ih v X8 k5 (by omega) (by omega) hf (fun k hk2 => BST_dn0 hW (hb k hk2) (fun c => absurd ⟨c.1, c.2.1, rfl⟩ hn)) hk
      refine ok_ite (fun q => ?_) (fun q => stay (fun z => q z.1))
      by_cases hc : CNT X v
      · refine ok_b0e ((ic_fr hf v).trans (ic_t hc)) ?_
        refine ok_ite (fun z => absurd z (by decide)) (fun _ => ?_)
        refine ok_gd hk8 (fun _ => ?_)
        rw [lq_e]
        have hcnd : CND X m (X.1 12 v 8).toNatClampNeg v := ⟨q, hc, rfl⟩
        have put : (X8.1 25 0 (X.1 12 v 8).toNatClampNeg = -1 ∨ ∃ b : Nat, b < (X.1 0 0 11).toNatClampNeg ∧ X8.1 25 0 (X.1 12 v 8).toNatClampNeg = nI b ∧ GEs X v b) → ok (f_X6_beltFromBehind_L11 m n (nI v - 1) (u1 X8 25 0 (X.1 12 v 8).toNatClampNeg (nI v)) k5) P := fun hp =>
          ih v _ k5 (by omega) (by omega) (hf.up hkk _) (fun k hk2 => by
            by_cases y : k = (X.1 12 v 8).toNatClampNeg
            · rw [y, up_s]
              exact BST_dn hS hW (by omega) (hb _ hkk) hcnd hp
            · rw [up_p y]
              exact BST_dn0 hW (hb k hk2) (fun c => absurd c.2.2.symm y)) hk
        refine ok_ite (fun r1 => ?_) (fun r1 => ?_)
        · refine ok_gd hk8 (fun _ => ?_)
          rw [lq_e]
          exact put (Or.inl r1)
        · rcases hb _ hkk with ⟨z, -⟩ | ⟨b, b1, b2, rb, b3, b4⟩
          · exact absurd z r1
          · rw [rb]
            refine ok_gd (nI_in (show b < 40 by omega) (by decide)) (fun _ => ?_)
            rw [nI_clamp (show b < 2 ^ 31 by omega)]
            refine ok_b0e ((hg_fr hf b v).trans (hg_e hS (by omega) hv40)) ?_
            by_cases g : GTs X b v
            · rw [if_pos g]
              refine ok_ite (fun z => absurd z (by decide)) (fun _ => ?_)
              refine ih v X8 k5 (by omega) (by omega) hf (fun k hk2 => BST_dn0 hW (hb k hk2) (fun c => ?_)) hk
              have ek : k = (X.1 12 v 8).toNatClampNeg := c.2.2.symm
              exact ⟨b, b2, by rw [ek]; exact rb, g⟩
            · rw [if_neg g]
              refine ok_ite (fun _ => ok_gd hk8 (fun _ => ?_)) (fun z => absurd rfl z)
              rw [lq_e]
              exact put (Or.inr ⟨b, b2, rb, by unfold GEs; unfold GTs at g; omega⟩)
      · refine ok_b0e ((ic_fr hf v).trans (ic_f hc)) ?_
        exact ok_ite (fun _ => stay (fun z => hc z.2.1)) (fun z => absurd rfl z)
