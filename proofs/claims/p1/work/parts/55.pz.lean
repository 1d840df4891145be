theorem rg_z_0 (p : Nat) : (rg_0 p).1 ≤ 0 ∧ 0 ≤ (rg_0 p).2 := by
  unfold rg_0
  split <;> decide
theorem rg_z_1 (p : Nat) : (rg_1 p).1 ≤ 0 ∧ 0 ≤ (rg_1 p).2 := by
  unfold rg_1
  split <;> decide
theorem rg_z_4 (p : Nat) : (rg_4 p).1 ≤ 0 ∧ 0 ≤ (rg_4 p).2 := by
  unfold rg_4
  split <;> decide
theorem rg_z_7 (p : Nat) : (rg_7 p).1 ≤ 0 ∧ 0 ≤ (rg_7 p).2 := by
  unfold rg_7
  split <;> decide
theorem rg_z_9 (p : Nat) : (rg_9 p).1 ≤ 0 ∧ 0 ≤ (rg_9 p).2 := by
  unfold rg_9
  split <;> decide
theorem rg_z_12 (p : Nat) : (rg_12 p).1 ≤ 0 ∧ 0 ≤ (rg_12 p).2 := by
  unfold rg_12
  split <;> decide
theorem rg_z_16 (p : Nat) : (rg_16 p).1 ≤ 0 ∧ 0 ≤ (rg_16 p).2 := by
  unfold rg_16
  split <;> decide
theorem rg_z_26 (p : Nat) : (rg_26 p).1 ≤ 0 ∧ 0 ≤ (rg_26 p).2 := by
  unfold rg_26
  split <;> decide
theorem rg_z (k p : Nat) : (rg k p).1 ≤ 0 ∧ 0 ≤ (rg k p).2 := by
  unfold rg
  split <;> first | decide | with_reducible exact rg_z_0 _ | with_reducible exact rg_z_1 _ | with_reducible exact rg_z_4 _ | with_reducible exact rg_z_7 _ | with_reducible exact rg_z_9 _ | with_reducible exact rg_z_12 _ | with_reducible exact rg_z_16 _ | with_reducible exact rg_z_26 _
theorem rg_S0 (k p : Nat) : (rg k p).1 ≤ iv k p ∧ iv k p ≤ (rg k p).2 := by
  unfold iv
  split
  · next h => obtain ⟨rfl, rfl⟩ := h; decide
  · split
    · next h => obtain ⟨rfl, rfl⟩ := h; decide
    · split
      · next h => obtain ⟨rfl, rfl⟩ := h; decide
      · split
        · next h => obtain ⟨rfl, rfl⟩ := h; decide
        · exact rg_z k p
theorem rel_S0 : REL S0 S0 := by
  have h : OKS S0 := by
    refine ⟨⟨fun k i p => ?_, fun _ _ _ _ => rfl, fun _ _ _ _ => rfl, fun _ _ _ _ => rfl, fun i p hi hp => ?_⟩, ?_⟩
    · exact rg_S0 k p
    · show 41 ≤ 41 + 3 * i + p ∧ 41 + 3 * i + p < 71
      omega
    · refine ⟨rfl, fun r a hr ha hs => absurd hs (nI_pos (by omega))⟩
  have v : ∀ {a : Nat} {P : Prop}, a < ((0 : Int32)).toNatClampNeg → P := fun ha => absurd ha (Nat.not_lt_zero _)
  exact ⟨h, h, ⟨rfl, rfl, rfl, rfl, rfl, fun _ => rfl⟩, fun a ha => v ha, ⟨fun a ha => v ha, fun a ha => v ha⟩, fun t _ => ⟨rfl, rfl, fun a ha => v ha, fun a ha => v ha⟩, ⟨rfl, fun a ha => v ha⟩, ⟨rfl, fun z => absurd rfl z⟩⟩
theorem whole_pure {L : Nat} {xs : Nat → Int32} (hL : L ≤ 4) : f_law xs L 1000 0 S0 S0 S0 = some () := by
  have hR := rel_S0
  have z0 : ((0 : Int32)).toInt = 0 := rfl
  have key : ok (f_law xs L 1000 0 S0 S0 S0) (fun _ => True) := by
    rw [f_law]
    refine ok_ite (fun _ => ok_some trivial) (fun c => ?_)
    have h4 := lw_cmp (by omega) c
    rw [z0] at h4
    have hrc : ∀ X M O, ok (f_law xs L 999 ((0 : Int32) + (4 : Int32)) X M O) (fun _ => True) := by
      intro X M O
      rw [f_law]
      refine ok_ite (fun _ => ok_some trivial) (fun c2 => ?_)
      have h5 := lw_cmp (by omega) c2
      have h6 : ((0 : Int32) + (4 : Int32)).toInt = 4 := rfl
      rw [h6] at h5
      omega
    have h40 : ((0 : Int32)).toInt + 4 ≤ L := by rw [z0]; exact h4
    have hd : (0 : Int32) ≤ 0 := by decide
    refine ok_gd (by have := lw_in (L := L) (by omega) hd h40 (k := 0) (by decide); rwa [show (0 : Int32) + nI 0 = 0 by rw [nI_0]; grind] at this) (fun _ => ok_lq (fun sx _ => ?_))
    refine ok_ite (fun _ => pC0 (by omega) hd h40 hR hrc) (fun _ => ?_)
    refine ok_ite (fun _ => pC1 (by omega) hd h40 hR hrc) (fun _ => ?_)
    refine ok_ite (fun _ => pC2 (by omega) hd h40 hR hrc) (fun _ => ?_)
    refine ok_ite (fun _ => pC3 (by omega) hd h40 hR hrc) (fun _ => ?_)
    refine ok_ite (fun _ => pC4 (by omega) hd h40 hR hrc) (fun _ => ?_)
    refine ok_ite (fun _ => pC5 (by omega) hd h40 hR hrc) (fun _ => ?_)
    refine ok_ite (fun _ => pC6 (by omega) hd h40 hR hrc) (fun _ => ?_)
    refine ok_ite (fun _ => pC7 (by omega) hd h40 hR hrc) (fun _ => ?_)
    refine ok_ite (fun _ => pC8 (by omega) hd h40 hR hrc) (fun _ => ?_)
    refine ok_ite (fun _ => pC9 (by omega) hd h40 hR hrc) (fun _ => ?_)
    refine ok_ite (fun _ => pC10 (by omega) hd h40 hR hrc) (fun _ => ?_)
    refine ok_ite (fun _ => pC11 (by omega) hd h40 hR hrc) (fun _ => ?_)
    refine ok_ite (fun _ => pC12 (by omega) hd h40 hR hrc) (fun _ => ?_)
    refine ok_ite (fun _ => pC13 (by omega) hd h40 hR hrc) (fun _ => ?_)
    refine ok_ite (fun _ => pC14 (by omega) hd h40 hR hrc) (fun _ => ?_)
    refine ok_ite (fun _ => pC15 (by omega) hd h40 hR hrc) (fun _ => ?_)
    refine ok_ite (fun _ => pC16 (by omega) hd h40 hR hrc) (fun _ => ?_)
    refine ok_ite (fun _ => pC17 (by omega) hd h40 hR hrc) (fun _ => ?_)
    refine ok_ite (fun _ => pC18 (by omega) hd h40 hR hrc) (fun _ => ?_)
    refine ok_ite (fun _ => pC19 (by omega) hd h40 hR hrc) (fun _ => ?_)
    refine ok_ite (fun _ => pC20 (by omega) hd h40 hR hrc) (fun _ => ?_)
    refine ok_ite (fun _ => pC21 (by omega) hd h40 hR hrc) (fun _ => ?_)
    refine ok_ite (fun _ => pC22 (by omega) hd h40 hR hrc) (fun _ => ?_)
    refine ok_ite (fun _ => pC23 (by omega) hd h40 hR hrc) (fun _ => ?_)
    refine ok_ite (fun _ => pC24 (by omega) hd h40 hR hrc) (fun _ => ?_)
    refine ok_ite (fun _ => pC25 (by omega) hd h40 hR hrc) (fun _ => ?_)
    refine ok_ite (fun _ => pC26 (by omega) hd h40 hR hrc) (fun _ => ?_)
    refine ok_ite (fun _ => pC27 (by omega) hd h40 hR hrc) (fun _ => ?_)
    refine ok_ite (fun _ => pC28 (by omega) hd h40 hR hrc) (fun _ => ?_)
    refine ok_ite (fun _ => pC29 (by omega) hd h40 hR hrc) (fun _ => ?_)
    refine ok_ite (fun _ => pC30 (by omega) hd h40 hR hrc) (fun _ => ?_)
    refine ok_ite (fun _ => pC31 (by omega) hd h40 hR hrc) (fun _ => ?_)
    refine ok_ite (fun _ => pC32 (by omega) hd h40 hR hrc) (fun _ => ?_)
    refine ok_ite (fun _ => pC33 (by omega) hd h40 hR hrc) (fun _ => ?_)
    refine ok_ite (fun _ => pC34 (by omega) hd h40 hR hrc) (fun _ => ?_)
    refine ok_ite (fun _ => pC35 (by omega) hd h40 hR hrc) (fun _ => ?_)
    refine ok_ite (fun _ => pC36 (by omega) hd h40 hR hrc) (fun _ => ?_)
    refine ok_ite (fun _ => pC37 (by omega) hd h40 hR hrc) (fun _ => ?_)
    refine ok_ite (fun _ => pC38 (by omega) hd h40 hR hrc) (fun _ => ?_)
    refine ok_ite (fun _ => pC39 (by omega) hd h40 hR hrc) (fun _ => ?_)
    refine ok_ite (fun _ => pC40 (by omega) hd h40 hR hrc) (fun _ => ?_)
    refine ok_ite (fun _ => pC41 (by omega) hd h40 hR hrc) (fun _ => ?_)
    refine ok_ite (fun _ => pC42 (by omega) hd h40 hR hrc) (fun _ => ?_)
    refine ok_ite (fun _ => pC43 (by omega) hd h40 hR hrc) (fun _ => ?_)
    refine ok_ite (fun _ => pC44 (by omega) hd h40 hR hrc) (fun _ => ?_)
    exact hrc S0 S0 S0
  obtain ⟨r, e, -⟩ := key
  exact e