theorem rg_z_0 (p : Nat) : (rg_0 p).1 ≤ 0 ∧ 0 ≤ (rg_0 p).2 := by
  unfold rg_0
  split <;> decide
theorem rg_z_1 (p : Nat) : (rg_1 p).1 ≤ 0 ∧ 0 ≤ (rg_1 p).2 := by
  unfold rg_1
  split <;> decide
theorem rg_z_4 (p : Nat) : (rg_4 p).1 ≤ 0 ∧ 0 ≤ (rg_4 p).2 := by
  unfold rg_4
  split <;> decide
theorem rg_z_7 (p : Nat) : (rg_7 p).1 ≤ 0 ∧ 0 ≤ (rg_7 p).2 := by
  unfold rg_7
  split <;> decide
theorem rg_z_9 (p : Nat) : (rg_9 p).1 ≤ 0 ∧ 0 ≤ (rg_9 p).2 := by
  unfold rg_9
  split <;> decide
theorem rg_z_12 (p : Nat) : (rg_12 p).1 ≤ 0 ∧ 0 ≤ (rg_12 p).2 := by
  unfold rg_12
  split <;> decide
theorem rg_z_16 (p : Nat) : (rg_16 p).1 ≤ 0 ∧ 0 ≤ (rg_16 p).2 := by
  unfold rg_16
  split <;> decide
theorem rg_z_26 (p : Nat) : (rg_26 p).1 ≤ 0 ∧ 0 ≤ (rg_26 p).2 := by
  unfold rg_26
  split <;> decide
theorem rg_z (k p : Nat) : (rg k p).1 ≤ 0 ∧ 0 ≤ (rg k p).2 := by
  unfold rg
  split <;> first | decide | with_reducible exact rg_z_0 _ | with_reducible exact rg_z_1 _ | with_reducible exact rg_z_4 _ | with_reducible exact rg_z_7 _ | with_reducible exact rg_z_9 _ | with_reducible exact rg_z_12 _ | with_reducible exact rg_z_16 _ | with_reducible exact rg_z_26 _
theorem rg_S0 (k p : Nat) : (rg k p).1 ≤ iv k p ∧ iv k p ≤ (rg k p).2 := by
  unfold iv
  split
  · next h => obtain ⟨rfl, rfl⟩ := h; decide
  · split
    · next h => obtain ⟨rfl, rfl⟩ := h; decide
    · split
      · next h => obtain ⟨rfl, rfl⟩ := h; decide
      · split
        · next h => obtain ⟨rfl, rfl⟩ := h; decide
        · exact rg_z k p
theorem law_pure {xs : Nat → Int32} {L : Nat} (hL : L ≤ 2048) : ∀ (n : Nat) (ix : Int32) (X M O : SS), (L : Int) + 1 ≤ ix.toInt + 4 * n → 0 ≤ ix → ix.toInt ≤ L → REL X M → ok (f_law xs L n ix X M O) (fun _ => True) := by
  intro n
  induction n with
  | zero => intro ix X M O hF h0 h1 hR; omega
  | succ n ih =>
    intro ix X M O hF h0 h1 hR
    rw [f_law]
    refine ok_ite (fun _ => ok_some trivial) (fun c => ?_)
    have h4 := lw_cmp hL c
    have ha := lw_add hL h0 h4
    have h0n := Int32.le_iff_toInt_le.mp h0
    rw [toInt_z] at h0n
    have hrc : ∀ X M O, REL X M → ok (f_law xs L n (ix + (4 : Int32)) X M O) (fun _ => True) := fun X M O hR => ih _ X M O (by omega) (Int32.le_iff_toInt_le.mpr (by rw [ha, toInt_z]; omega)) (by omega) hR
    refine ok_gd (by have := lw_in hL h0 h4 (k := 0) (by decide); rwa [show ix + nI 0 = ix by rw [nI_0]; grind] at this) (fun _ => ok_lq (fun sx _ => ?_))
    refine ok_ite (fun _ => pC0 hL h0 h4 hR hrc) (fun _ => ?_)
    refine ok_ite (fun _ => pC1 hL h0 h4 hR hrc) (fun _ => ?_)
    refine ok_ite (fun _ => pC2 hL h0 h4 hR hrc) (fun _ => ?_)
    refine ok_ite (fun _ => pC3 hL h0 h4 hR hrc) (fun _ => ?_)
    refine ok_ite (fun _ => pC4 hL h0 h4 hR hrc) (fun _ => ?_)
    refine ok_ite (fun _ => pC5 hL h0 h4 hR hrc) (fun _ => ?_)
    refine ok_ite (fun _ => pC6 hL h0 h4 hR hrc) (fun _ => ?_)
    refine ok_ite (fun _ => pC7 hL h0 h4 hR hrc) (fun _ => ?_)
    refine ok_ite (fun _ => pC8 hL h0 h4 hR hrc) (fun _ => ?_)
    refine ok_ite (fun _ => pC9 hL h0 h4 hR hrc) (fun _ => ?_)
    refine ok_ite (fun _ => pC10 hL h0 h4 hR hrc) (fun _ => ?_)
    refine ok_ite (fun _ => pC11 hL h0 h4 hR hrc) (fun _ => ?_)
    refine ok_ite (fun _ => pC12 hL h0 h4 hR hrc) (fun _ => ?_)
    refine ok_ite (fun _ => pC13 hL h0 h4 hR hrc) (fun _ => ?_)
    refine ok_ite (fun _ => pC14 hL h0 h4 hR hrc) (fun _ => ?_)
    refine ok_ite (fun _ => pC15 hL h0 h4 hR hrc) (fun _ => ?_)
    refine ok_ite (fun _ => pC16 hL h0 h4 hR hrc) (fun _ => ?_)
    refine ok_ite (fun _ => pC17 hL h0 h4 hR hrc) (fun _ => ?_)
    refine ok_ite (fun _ => pC18 hL h0 h4 hR hrc) (fun _ => ?_)
    refine ok_ite (fun _ => pC19 hL h0 h4 hR hrc) (fun _ => ?_)
    refine ok_ite (fun _ => pC20 hL h0 h4 hR hrc) (fun _ => ?_)
    refine ok_ite (fun _ => pC21 hL h0 h4 hR hrc) (fun _ => ?_)
    refine ok_ite (fun _ => pC22 hL h0 h4 hR hrc) (fun _ => ?_)
    refine ok_ite (fun _ => pC23 hL h0 h4 hR hrc) (fun _ => ?_)
    refine ok_ite (fun _ => pC24 hL h0 h4 hR hrc) (fun _ => ?_)
    refine ok_ite (fun _ => pC25 hL h0 h4 hR hrc) (fun _ => ?_)
    refine ok_ite (fun _ => pC26 hL h0 h4 hR hrc) (fun _ => ?_)
    refine ok_ite (fun _ => pC27 hL h0 h4 hR hrc) (fun _ => ?_)
    refine ok_ite (fun _ => pC28 hL h0 h4 hR hrc) (fun _ => ?_)
    refine ok_ite (fun _ => pC29 hL h0 h4 hR hrc) (fun _ => ?_)
    refine ok_ite (fun _ => pC30 hL h0 h4 hR hrc) (fun _ => ?_)
    refine ok_ite (fun _ => pC31 hL h0 h4 hR hrc) (fun _ => ?_)
    refine ok_ite (fun _ => pC32 hL h0 h4 hR hrc) (fun _ => ?_)
    refine ok_ite (fun _ => pC33 hL h0 h4 hR hrc) (fun _ => ?_)
    refine ok_ite (fun _ => pC34 hL h0 h4 hR hrc) (fun _ => ?_)
    refine ok_ite (fun _ => pC35 hL h0 h4 hR hrc) (fun _ => ?_)
    refine ok_ite (fun _ => pC36 hL h0 h4 hR hrc) (fun _ => ?_)
    refine ok_ite (fun _ => pC37 hL h0 h4 hR hrc) (fun _ => ?_)
    refine ok_ite (fun _ => pC38 hL h0 h4 hR hrc) (fun _ => ?_)
    refine ok_ite (fun _ => pC39 hL h0 h4 hR hrc) (fun _ => ?_)
    refine ok_ite (fun _ => pC40 hL h0 h4 hR hrc) (fun _ => ?_)
    refine ok_ite (fun _ => pC41 hL h0 h4 hR hrc) (fun _ => ?_)
    refine ok_ite (fun _ => pC42 hL h0 h4 hR hrc) (fun _ => ?_)
    refine ok_ite (fun _ => pC43 hL h0 h4 hR hrc) (fun _ => ?_)
    refine ok_ite (fun _ => pC44 hL h0 h4 hR hrc) (fun _ => ?_)
    exact hrc X M O hR
theorem rel_S0 : REL S0 S0 := by
  have h : OKS S0 := by
    refine ⟨⟨fun k i p => ?_, fun _ _ _ _ => rfl, fun _ _ _ _ => rfl, fun _ _ _ _ => rfl, fun i p hi hp => ?_⟩, ?_⟩
    · exact rg_S0 k p
    · show 41 ≤ 41 + 3 * i + p ∧ 41 + 3 * i + p < 71
      omega
    · refine ⟨rfl, fun r a hr ha hs => absurd hs (nI_pos (by omega))⟩
  have v : ∀ {a : Nat} {P : Prop}, a < ((0 : Int32)).toNatClampNeg → P := fun ha => absurd ha (Nat.not_lt_zero _)
  exact ⟨h, h, ⟨rfl, rfl, rfl, rfl, rfl, fun _ => rfl⟩, fun a ha => v ha, ⟨fun a ha => v ha, fun a ha => v ha⟩, fun t _ => ⟨rfl, rfl, fun a ha => v ha, fun a ha => v ha⟩, ⟨rfl, fun a ha => v ha⟩, ⟨rfl, fun z => absurd rfl z⟩⟩
theorem whole_pure {L : Nat} {xs : Nat → Int32} (hL : L ≤ 2048) : f_law xs L 1000 0 S0 S0 S0 = some () := by
  obtain ⟨r, e, -⟩ := law_pure (xs := xs) (L := L) (by omega) 1000 0 S0 S0 S0 (by rw [toInt_z]; omega) (by decide) (by rw [toInt_z]; omega) rel_S0
  exact e