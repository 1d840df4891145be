theorem pC0 {xs : Nat → Int32} {L : Nat} {ix : Int32} {X M O : SS} {rc : Int32 → SS → SS → SS → Option Unit} (hL : L ≤ 2048) (h0 : 0 ≤ ix) (h4 : ix.toInt + 4 ≤ L) (cR : REL X M) (hrc : ∀ X M O, REL X M → ok (rc (ix + (4 : Int32)) X M O) (fun _ => True)) : ok (f_law_C0 xs L ix X M O rc) (fun _ => True) := by
  have gd1 : vp_in (ix + (1 : Int32)) L := lw_in hL h0 h4 (k := 1) (by decide)
  have gd2 : vp_in (ix + (2 : Int32)) L := lw_in hL h0 h4 (k := 2) (by decide)
  unfold f_law_C0
  refine ok_gd gd1 (fun _ => ?_)
  refine ok_gd gd2 (fun _ => ?_)
  obtain ⟨jX, jO, jk, jM, jb, je1, je2, jR, jA⟩ := t_step (O := O) cR (((xs ((ix + (1 : Int32))).toNatClampNeg)).toUInt32 % 65536).toInt32 (xs ((ix + (2 : Int32))).toNatClampNeg)
  refine ok_b2e je1 ?_
  refine ok_gd gd1 (fun _ => ?_)
  refine ok_gd gd2 (fun _ => ?_)
  refine ok_b1e je2 ?_
  exact hrc _ _ _ jR
theorem pC1 {xs : Nat → Int32} {L : Nat} {ix : Int32} {X M O : SS} {rc : Int32 → SS → SS → SS → Option Unit} (hL : L ≤ 2048) (h0 : 0 ≤ ix) (h4 : ix.toInt + 4 ≤ L) (cR : REL X M) (hrc : ∀ X M O, REL X M → ok (rc (ix + (4 : Int32)) X M O) (fun _ => True)) : ok (f_law_C1 xs L ix X M O rc) (fun _ => True) := by
  unfold f_law_C1
  obtain ⟨jX, jk, jM, jb, je1, je2, jR, jA⟩ := t_wipe cR 
  refine ok_b1e je1 ?_
  refine ok_b1e je2 ?_
  exact hrc _ _ _ jR
theorem pC2 {xs : Nat → Int32} {L : Nat} {ix : Int32} {X M O : SS} {rc : Int32 → SS → SS → SS → Option Unit} (hL : L ≤ 2048) (h0 : 0 ≤ ix) (h4 : ix.toInt + 4 ≤ L) (cR : REL X M) (hrc : ∀ X M O, REL X M → ok (rc (ix + (4 : Int32)) X M O) (fun _ => True)) : ok (f_law_C2 xs L ix X M O rc) (fun _ => True) := by
  have gd1 : vp_in (ix + (1 : Int32)) L := lw_in hL h0 h4 (k := 1) (by decide)
  have gd2 : vp_in (ix + (2 : Int32)) L := lw_in hL h0 h4 (k := 2) (by decide)
  unfold f_law_C2
  refine ok_gd gd1 (fun _ => ?_)
  refine ok_gd gd2 (fun _ => ?_)
  refine ok_ite (fun q1 => ?_) (fun q1 => ?_)
  · obtain ⟨jX, jO, jk, jM, jb, je1, je2, jR, jA⟩ := t_number (O := O) cR (xs ((ix + (1 : Int32))).toNatClampNeg) (0 : Int32)
    refine ok_b2e je1 ?_
    refine ok_gd gd1 (fun _ => ?_)
    refine ok_gd gd2 (fun _ => ?_)
    refine ok_ite (fun z => ?_) (fun z => ?_)
    · refine ok_b1e je2 ?_
      exact hrc _ _ _ jR
    · exact absurd q1 z
  · obtain ⟨jX, jO, jk, jM, jb, je1, je2, jR, jA⟩ := t_number (O := O) cR (xs ((ix + (1 : Int32))).toNatClampNeg) (1 : Int32)
    refine ok_b2e je1 ?_
    refine ok_gd gd1 (fun _ => ?_)
    refine ok_gd gd2 (fun _ => ?_)
    refine ok_ite (fun z => ?_) (fun z => ?_)
    · exact absurd z q1
    · refine ok_b1e je2 ?_
      exact hrc _ _ _ jR
theorem pC3 {xs : Nat → Int32} {L : Nat} {ix : Int32} {X M O : SS} {rc : Int32 → SS → SS → SS → Option Unit} (hL : L ≤ 2048) (h0 : 0 ≤ ix) (h4 : ix.toInt + 4 ≤ L) (cR : REL X M) (hrc : ∀ X M O, REL X M → ok (rc (ix + (4 : Int32)) X M O) (fun _ => True)) : ok (f_law_C3 xs L ix X M O rc) (fun _ => True) := by
  unfold f_law_C3
  obtain ⟨jX, jk, jM, jb, je1, je2, jR, jA⟩ := t_clear cR 
  refine ok_b1e je1 ?_
  refine ok_b1e je2 ?_
  exact hrc _ _ _ jR
theorem pC4 {xs : Nat → Int32} {L : Nat} {ix : Int32} {X M O : SS} {rc : Int32 → SS → SS → SS → Option Unit} (hL : L ≤ 2048) (h0 : 0 ≤ ix) (h4 : ix.toInt + 4 ≤ L) (cR : REL X M) (hrc : ∀ X M O, REL X M → ok (rc (ix + (4 : Int32)) X M O) (fun _ => True)) : ok (f_law_C4 xs L ix X M O rc) (fun _ => True) := by
  have gd1 : vp_in (ix + (1 : Int32)) L := lw_in hL h0 h4 (k := 1) (by decide)
  unfold f_law_C4
  refine ok_gd gd1 (fun _ => ?_)
  obtain ⟨jX, jO, jk, jM, jb, je1, je2, jR, jA⟩ := t_kata (O := O) cR (xs ((ix + (1 : Int32))).toNatClampNeg)
  refine ok_b2e je1 ?_
  refine ok_gd gd1 (fun _ => ?_)
  refine ok_b1e je2 ?_
  exact hrc _ _ _ jR
theorem pC5 {xs : Nat → Int32} {L : Nat} {ix : Int32} {X M O : SS} {rc : Int32 → SS → SS → SS → Option Unit} (hL : L ≤ 2048) (h0 : 0 ≤ ix) (h4 : ix.toInt + 4 ≤ L) (cR : REL X M) (hrc : ∀ X M O, REL X M → ok (rc (ix + (4 : Int32)) X M O) (fun _ => True)) : ok (f_law_C5 xs L ix X M O rc) (fun _ => True) := by
  have gd1 : vp_in (ix + (1 : Int32)) L := lw_in hL h0 h4 (k := 1) (by decide)
  unfold f_law_C5
  refine ok_gd gd1 (fun _ => ?_)
  obtain ⟨jX, jO, jk, jM, jb, je1, je2, jR, jA⟩ := t_test (O := O) cR (xs ((ix + (1 : Int32))).toNatClampNeg)
  refine ok_b2e je1 ?_
  refine ok_gd gd1 (fun _ => ?_)
  refine ok_b1e je2 ?_
  exact hrc _ _ _ jR
theorem pC6 {xs : Nat → Int32} {L : Nat} {ix : Int32} {X M O : SS} {rc : Int32 → SS → SS → SS → Option Unit} (hL : L ≤ 2048) (h0 : 0 ≤ ix) (h4 : ix.toInt + 4 ≤ L) (cR : REL X M) (hrc : ∀ X M O, REL X M → ok (rc (ix + (4 : Int32)) X M O) (fun _ => True)) : ok (f_law_C6 xs L ix X M O rc) (fun _ => True) := by
  have gd1 : vp_in (ix + (1 : Int32)) L := lw_in hL h0 h4 (k := 1) (by decide)
  have gd2 : vp_in (ix + (2 : Int32)) L := lw_in hL h0 h4 (k := 2) (by decide)
  unfold f_law_C6
  refine ok_gd gd1 (fun _ => ?_)
  refine ok_gd gd2 (fun _ => ?_)
  obtain ⟨jX, jO, jk, jM, jb, je1, je2, jR, jA⟩ := t_fix (O := O) cR (xs ((ix + (1 : Int32))).toNatClampNeg) (xs ((ix + (2 : Int32))).toNatClampNeg)
  refine ok_b2e je1 ?_
  refine ok_gd gd1 (fun _ => ?_)
  refine ok_gd gd2 (fun _ => ?_)
  refine ok_b1e je2 ?_
  exact hrc _ _ _ jR
theorem pC7 {xs : Nat → Int32} {L : Nat} {ix : Int32} {X M O : SS} {rc : Int32 → SS → SS → SS → Option Unit} (hL : L ≤ 2048) (h0 : 0 ≤ ix) (h4 : ix.toInt + 4 ≤ L) (cR : REL X M) (hrc : ∀ X M O, REL X M → ok (rc (ix + (4 : Int32)) X M O) (fun _ => True)) : ok (f_law_C7 xs L ix X M O rc) (fun _ => True) := by
  have gd1 : vp_in (ix + (1 : Int32)) L := lw_in hL h0 h4 (k := 1) (by decide)
  unfold f_law_C7
  refine ok_gd gd1 (fun _ => ?_)
  refine ok_b1 (q_L_tests cR.1 O (xs ((ix + (1 : Int32))).toNatClampNeg)) (fun O3 v2 w1 => ?_)
  refine ok_gd gd1 (fun _ => ?_)
  refine ok_b1 (q_X7_tests cR.2.1 (xs ((ix + (1 : Int32))).toNatClampNeg)) (fun M7 v6 w2 => ?_)
  exact hrc _ _ _ (cR.step (RX.refl cR.1) w2)
theorem pC8 {xs : Nat → Int32} {L : Nat} {ix : Int32} {X M O : SS} {rc : Int32 → SS → SS → SS → Option Unit} (hL : L ≤ 2048) (h0 : 0 ≤ ix) (h4 : ix.toInt + 4 ≤ L) (cR : REL X M) (hrc : ∀ X M O, REL X M → ok (rc (ix + (4 : Int32)) X M O) (fun _ => True)) : ok (f_law_C8 xs L ix X M O rc) (fun _ => True) := by
  have gd1 : vp_in (ix + (1 : Int32)) L := lw_in hL h0 h4 (k := 1) (by decide)
  have gd2 : vp_in (ix + (2 : Int32)) L := lw_in hL h0 h4 (k := 2) (by decide)
  unfold f_law_C8
  refine ok_gd gd1 (fun _ => ?_)
  refine ok_gd gd2 (fun _ => ?_)
  obtain ⟨jX, jO, jk, jM, jb, je1, je2, jR, jA⟩ := t_run (O := O) cR (xs ((ix + (1 : Int32))).toNatClampNeg) (xs ((ix + (2 : Int32))).toNatClampNeg)
  refine ok_b2e je1 ?_
  refine ok_gd gd1 (fun _ => ?_)
  refine ok_gd gd2 (fun _ => ?_)
  refine ok_b1e je2 ?_
  exact hrc _ _ _ jR
theorem pC9 {xs : Nat → Int32} {L : Nat} {ix : Int32} {X M O : SS} {rc : Int32 → SS → SS → SS → Option Unit} (hL : L ≤ 2048) (h0 : 0 ≤ ix) (h4 : ix.toInt + 4 ≤ L) (cR : REL X M) (hrc : ∀ X M O, REL X M → ok (rc (ix + (4 : Int32)) X M O) (fun _ => True)) : ok (f_law_C9 xs L ix X M O rc) (fun _ => True) := by
  unfold f_law_C9
  refine ok_b1 (q_L_done cR.1 O) (fun O2 v1 w1 => ?_)
  refine ok_b1 (q_X7_done cR.2.1 ) (fun M5 v4 w2 => ?_)
  exact hrc _ _ _ (cR.step (RX.refl cR.1) w2)
theorem pC10 {xs : Nat → Int32} {L : Nat} {ix : Int32} {X M O : SS} {rc : Int32 → SS → SS → SS → Option Unit} (hL : L ≤ 2048) (h0 : 0 ≤ ix) (h4 : ix.toInt + 4 ≤ L) (cR : REL X M) (hrc : ∀ X M O, REL X M → ok (rc (ix + (4 : Int32)) X M O) (fun _ => True)) : ok (f_law_C10 xs L ix X M O rc) (fun _ => True) := by
  unfold f_law_C10
  refine ok_b1 (q_L_outputs cR.1 O) (fun O2 v1 w1 => ?_)
  refine ok_b1 (q_X7_outputs cR.2.1 ) (fun M5 v4 w2 => ?_)
  exact hrc _ _ _ (cR.step (RX.refl cR.1) w2)
theorem pC11 {xs : Nat → Int32} {L : Nat} {ix : Int32} {X M O : SS} {rc : Int32 → SS → SS → SS → Option Unit} (hL : L ≤ 2048) (h0 : 0 ≤ ix) (h4 : ix.toInt + 4 ≤ L) (cR : REL X M) (hrc : ∀ X M O, REL X M → ok (rc (ix + (4 : Int32)) X M O) (fun _ => True)) : ok (f_law_C11 xs L ix X M O rc) (fun _ => True) := by
  have gd1 : vp_in (ix + (1 : Int32)) L := lw_in hL h0 h4 (k := 1) (by decide)
  unfold f_law_C11
  refine ok_gd gd1 (fun _ => ?_)
  refine ok_b1 (q_L_output cR.1 O (xs ((ix + (1 : Int32))).toNatClampNeg)) (fun O3 v2 w1 => ?_)
  refine ok_gd gd1 (fun _ => ?_)
  refine ok_b1 (q_X7_output cR.2.1 (xs ((ix + (1 : Int32))).toNatClampNeg)) (fun M7 v6 w2 => ?_)
  exact hrc _ _ _ (cR.step (RX.refl cR.1) w2)
theorem pC12 {xs : Nat → Int32} {L : Nat} {ix : Int32} {X M O : SS} {rc : Int32 → SS → SS → SS → Option Unit} (hL : L ≤ 2048) (h0 : 0 ≤ ix) (h4 : ix.toInt + 4 ≤ L) (cR : REL X M) (hrc : ∀ X M O, REL X M → ok (rc (ix + (4 : Int32)) X M O) (fun _ => True)) : ok (f_law_C12 xs L ix X M O rc) (fun _ => True) := by
  unfold f_law_C12
  obtain ⟨jO, jk, jM, jb, je1, je2, jR, jA⟩ := t_depth (O := O) cR 
  refine ok_b1e je1 ?_
  refine ok_b1e je2 ?_
  refine ok_b0 ⟨_, rfl, rfl⟩ (fun v7 w1 => ?_)
  refine ok_ite (fun q2 => ?_) (fun q2 => ?_)
  · refine ok_ite (fun q3 => ?_) (fun q3 => ?_)
    · refine ok_ite (fun q4 => ?_) (fun q4 => ?_)
      · exact hrc _ _ _ jR
      · exact absurd (by have hz := jA.2 q3; show lg_cmp (jO.2.1 56 0 0) _ = 0; rw [hz]; exact lg_self _) q4
    · exact hrc _ _ _ jR
  · exact absurd (w1.symm.trans jA.1) q2
theorem pC13 {xs : Nat → Int32} {L : Nat} {ix : Int32} {X M O : SS} {rc : Int32 → SS → SS → SS → Option Unit} (hL : L ≤ 2048) (h0 : 0 ≤ ix) (h4 : ix.toInt + 4 ≤ L) (cR : REL X M) (hrc : ∀ X M O, REL X M → ok (rc (ix + (4 : Int32)) X M O) (fun _ => True)) : ok (f_law_C13 xs L ix X M O rc) (fun _ => True) := by
  unfold f_law_C13
  obtain ⟨jX, jO, jk, jM, jb, je1, je2, jR, jA⟩ := t_member (O := O) cR 
  refine ok_b2e je1 ?_
  refine ok_b1e je2 ?_
  exact hrc _ _ _ jR
theorem pC14 {xs : Nat → Int32} {L : Nat} {ix : Int32} {X M O : SS} {rc : Int32 → SS → SS → SS → Option Unit} (hL : L ≤ 2048) (h0 : 0 ≤ ix) (h4 : ix.toInt + 4 ≤ L) (cR : REL X M) (hrc : ∀ X M O, REL X M → ok (rc (ix + (4 : Int32)) X M O) (fun _ => True)) : ok (f_law_C14 xs L ix X M O rc) (fun _ => True) := by
  have gd1 : vp_in (ix + (1 : Int32)) L := lw_in hL h0 h4 (k := 1) (by decide)
  have gd2 : vp_in (ix + (2 : Int32)) L := lw_in hL h0 h4 (k := 2) (by decide)
  unfold f_law_C14
  refine ok_gd gd1 (fun _ => ?_)
  refine ok_gd gd2 (fun _ => ?_)
  obtain ⟨jX, jO, jk, jM, jb, je1, je2, jR, jA⟩ := t_submit (O := O) cR (xs ((ix + (1 : Int32))).toNatClampNeg) (xs ((ix + (2 : Int32))).toNatClampNeg)
  refine ok_b2e je1 ?_
  refine ok_gd gd1 (fun _ => ?_)
  refine ok_gd gd2 (fun _ => ?_)
  refine ok_b1e je2 ?_
  exact hrc _ _ _ jR
theorem pC15 {xs : Nat → Int32} {L : Nat} {ix : Int32} {X M O : SS} {rc : Int32 → SS → SS → SS → Option Unit} (hL : L ≤ 2048) (h0 : 0 ≤ ix) (h4 : ix.toInt + 4 ≤ L) (cR : REL X M) (hrc : ∀ X M O, REL X M → ok (rc (ix + (4 : Int32)) X M O) (fun _ => True)) : ok (f_law_C15 xs L ix X M O rc) (fun _ => True) := by
  unfold f_law_C15
  refine ok_b0 (q_X6_works cR.1 ) (fun v1 w1 => ?_)
  refine ok_b1 (q_X7_works cR.2.1 ) (fun M4 v3 w2 => ?_)
  exact hrc _ _ _ (cR.step (RX.refl cR.1) w2)
theorem pC16 {xs : Nat → Int32} {L : Nat} {ix : Int32} {X M O : SS} {rc : Int32 → SS → SS → SS → Option Unit} (hL : L ≤ 2048) (h0 : 0 ≤ ix) (h4 : ix.toInt + 4 ≤ L) (cR : REL X M) (hrc : ∀ X M O, REL X M → ok (rc (ix + (4 : Int32)) X M O) (fun _ => True)) : ok (f_law_C16 xs L ix X M O rc) (fun _ => True) := by
  have gd1 : vp_in (ix + (1 : Int32)) L := lw_in hL h0 h4 (k := 1) (by decide)
  have gd2 : vp_in (ix + (2 : Int32)) L := lw_in hL h0 h4 (k := 2) (by decide)
  unfold f_law_C16
  refine ok_gd gd1 (fun _ => ?_)
  refine ok_gd gd2 (fun _ => ?_)
  refine ok_b1 (q_L_of cR.1 O (xs ((ix + (1 : Int32))).toNatClampNeg) (((xs ((ix + (2 : Int32))).toNatClampNeg)).toUInt32 % 65536).toInt32) (fun O4 v3 w1 => ?_)
  refine ok_gd gd1 (fun _ => ?_)
  refine ok_gd gd2 (fun _ => ?_)
  refine ok_b1 (q_X7_of cR.2.1 (xs ((ix + (1 : Int32))).toNatClampNeg) (((xs ((ix + (2 : Int32))).toNatClampNeg)).toUInt32 % 65536).toInt32) (fun M9 v8 w2 => ?_)
  exact hrc _ _ _ (cR.step (RX.refl cR.1) w2)
theorem pC17 {xs : Nat → Int32} {L : Nat} {ix : Int32} {X M O : SS} {rc : Int32 → SS → SS → SS → Option Unit} (hL : L ≤ 2048) (h0 : 0 ≤ ix) (h4 : ix.toInt + 4 ≤ L) (cR : REL X M) (hrc : ∀ X M O, REL X M → ok (rc (ix + (4 : Int32)) X M O) (fun _ => True)) : ok (f_law_C17 xs L ix X M O rc) (fun _ => True) := by
  have gd1 : vp_in (ix + (1 : Int32)) L := lw_in hL h0 h4 (k := 1) (by decide)
  unfold f_law_C17
  refine ok_gd gd1 (fun _ => ?_)
  refine ok_b1 (q_L_state cR.1 O (xs ((ix + (1 : Int32))).toNatClampNeg)) (fun O3 v2 w1 => ?_)
  refine ok_gd gd1 (fun _ => ?_)
  refine ok_b1 (q_X7_state cR.2.1 (xs ((ix + (1 : Int32))).toNatClampNeg)) (fun M7 v6 w2 => ?_)
  exact hrc _ _ _ (cR.step (RX.refl cR.1) w2)
theorem pC18 {xs : Nat → Int32} {L : Nat} {ix : Int32} {X M O : SS} {rc : Int32 → SS → SS → SS → Option Unit} (hL : L ≤ 2048) (h0 : 0 ≤ ix) (h4 : ix.toInt + 4 ≤ L) (cR : REL X M) (hrc : ∀ X M O, REL X M → ok (rc (ix + (4 : Int32)) X M O) (fun _ => True)) : ok (f_law_C18 xs L ix X M O rc) (fun _ => True) := by
  have gd1 : vp_in (ix + (1 : Int32)) L := lw_in hL h0 h4 (k := 1) (by decide)
  unfold f_law_C18
  refine ok_gd gd1 (fun _ => ?_)
  refine ok_b1 (q_L_sum cR.1 O (xs ((ix + (1 : Int32))).toNatClampNeg)) (fun O3 v2 w1 => ?_)
  refine ok_gd gd1 (fun _ => ?_)
  refine ok_b1 (q_X7_sum cR.2.1 (xs ((ix + (1 : Int32))).toNatClampNeg)) (fun M7 v6 w2 => ?_)
  exact hrc _ _ _ (cR.step (RX.refl cR.1) w2)
theorem pC19 {xs : Nat → Int32} {L : Nat} {ix : Int32} {X M O : SS} {rc : Int32 → SS → SS → SS → Option Unit} (hL : L ≤ 2048) (h0 : 0 ≤ ix) (h4 : ix.toInt + 4 ≤ L) (cR : REL X M) (hrc : ∀ X M O, REL X M → ok (rc (ix + (4 : Int32)) X M O) (fun _ => True)) : ok (f_law_C19 xs L ix X M O rc) (fun _ => True) := by
  have gd1 : vp_in (ix + (1 : Int32)) L := lw_in hL h0 h4 (k := 1) (by decide)
  have gd2 : vp_in (ix + (2 : Int32)) L := lw_in hL h0 h4 (k := 2) (by decide)
  unfold f_law_C19
  refine ok_gd gd1 (fun _ => ?_)
  refine ok_gd gd2 (fun _ => ?_)
  refine ok_b2 (q_L_steps cR.1 O (xs ((ix + (1 : Int32))).toNatClampNeg) (xs ((ix + (2 : Int32))).toNatClampNeg)) (fun X4 O5 v3 w1 => ?_)
  refine ok_gd gd1 (fun _ => ?_)
  refine ok_gd gd2 (fun _ => ?_)
  refine ok_b1 (q_X7_steps cR.2.1 (xs ((ix + (1 : Int32))).toNatClampNeg) (xs ((ix + (2 : Int32))).toNatClampNeg)) (fun M10 v9 w2 => ?_)
  exact hrc _ _ _ (cR.step w1 w2)
theorem pC20 {xs : Nat → Int32} {L : Nat} {ix : Int32} {X M O : SS} {rc : Int32 → SS → SS → SS → Option Unit} (hL : L ≤ 2048) (h0 : 0 ≤ ix) (h4 : ix.toInt + 4 ≤ L) (cR : REL X M) (hrc : ∀ X M O, REL X M → ok (rc (ix + (4 : Int32)) X M O) (fun _ => True)) : ok (f_law_C20 xs L ix X M O rc) (fun _ => True) := by
  have gd1 : vp_in (ix + (1 : Int32)) L := lw_in hL h0 h4 (k := 1) (by decide)
  unfold f_law_C20
  refine ok_gd gd1 (fun _ => ?_)
  refine ok_b1 (q_L_hasBody cR.1 O (xs ((ix + (1 : Int32))).toNatClampNeg)) (fun O3 v2 w1 => ?_)
  refine ok_gd gd1 (fun _ => ?_)
  refine ok_b1 (q_X7_hasBody cR.2.1 (xs ((ix + (1 : Int32))).toNatClampNeg)) (fun M7 v6 w2 => ?_)
  exact hrc _ _ _ (cR.step (RX.refl cR.1) w2)
theorem pC21 {xs : Nat → Int32} {L : Nat} {ix : Int32} {X M O : SS} {rc : Int32 → SS → SS → SS → Option Unit} (hL : L ≤ 2048) (h0 : 0 ≤ ix) (h4 : ix.toInt + 4 ≤ L) (cR : REL X M) (hrc : ∀ X M O, REL X M → ok (rc (ix + (4 : Int32)) X M O) (fun _ => True)) : ok (f_law_C21 xs L ix X M O rc) (fun _ => True) := by
  have gd1 : vp_in (ix + (1 : Int32)) L := lw_in hL h0 h4 (k := 1) (by decide)
  have gd2 : vp_in (ix + (2 : Int32)) L := lw_in hL h0 h4 (k := 2) (by decide)
  unfold f_law_C21
  refine ok_gd gd1 (fun _ => ?_)
  refine ok_gd gd2 (fun _ => ?_)
  refine ok_b1 (q_L_letter cR.1 O (xs ((ix + (1 : Int32))).toNatClampNeg) (xs ((ix + (2 : Int32))).toNatClampNeg)) (fun O4 v3 w1 => ?_)
  refine ok_gd gd1 (fun _ => ?_)
  refine ok_gd gd2 (fun _ => ?_)
  refine ok_b1 (q_X7_letter cR.2.1 (xs ((ix + (1 : Int32))).toNatClampNeg) (xs ((ix + (2 : Int32))).toNatClampNeg)) (fun M9 v8 w2 => ?_)
  exact hrc _ _ _ (cR.step (RX.refl cR.1) w2)
theorem pC22 {xs : Nat → Int32} {L : Nat} {ix : Int32} {X M O : SS} {rc : Int32 → SS → SS → SS → Option Unit} (hL : L ≤ 2048) (h0 : 0 ≤ ix) (h4 : ix.toInt + 4 ≤ L) (cR : REL X M) (hrc : ∀ X M O, REL X M → ok (rc (ix + (4 : Int32)) X M O) (fun _ => True)) : ok (f_law_C22 xs L ix X M O rc) (fun _ => True) := by
  have gd1 : vp_in (ix + (1 : Int32)) L := lw_in hL h0 h4 (k := 1) (by decide)
  unfold f_law_C22
  refine ok_gd gd1 (fun _ => ?_)
  refine ok_b2 (q_L_drop cR.1 O (xs ((ix + (1 : Int32))).toNatClampNeg)) (fun X3 O4 v2 w1 => ?_)
  refine ok_gd gd1 (fun _ => ?_)
  refine ok_b1 (q_X7_drop cR.2.1 (xs ((ix + (1 : Int32))).toNatClampNeg)) (fun M8 v7 w2 => ?_)
  exact hrc _ _ _ (cR.step w1 w2)
theorem pC23 {xs : Nat → Int32} {L : Nat} {ix : Int32} {X M O : SS} {rc : Int32 → SS → SS → SS → Option Unit} (hL : L ≤ 2048) (h0 : 0 ≤ ix) (h4 : ix.toInt + 4 ≤ L) (cR : REL X M) (hrc : ∀ X M O, REL X M → ok (rc (ix + (4 : Int32)) X M O) (fun _ => True)) : ok (f_law_C23 xs L ix X M O rc) (fun _ => True) := by
  have gd1 : vp_in (ix + (1 : Int32)) L := lw_in hL h0 h4 (k := 1) (by decide)
  unfold f_law_C23
  refine ok_gd gd1 (fun _ => ?_)
  refine ok_b2 (q_L_capacity cR.1 O (xs ((ix + (1 : Int32))).toNatClampNeg)) (fun X3 O4 v2 w1 => ?_)
  refine ok_gd gd1 (fun _ => ?_)
  refine ok_b1 (q_X7_capacity cR.2.1 (xs ((ix + (1 : Int32))).toNatClampNeg)) (fun M8 v7 w2 => ?_)
  exact hrc _ _ _ (cR.step w1 w2)
theorem pC24 {xs : Nat → Int32} {L : Nat} {ix : Int32} {X M O : SS} {rc : Int32 → SS → SS → SS → Option Unit} (hL : L ≤ 2048) (h0 : 0 ≤ ix) (h4 : ix.toInt + 4 ≤ L) (cR : REL X M) (hrc : ∀ X M O, REL X M → ok (rc (ix + (4 : Int32)) X M O) (fun _ => True)) : ok (f_law_C24 xs L ix X M O rc) (fun _ => True) := by
  unfold f_law_C24
  refine ok_b0 (q_X6_bodies cR.1 ) (fun v1 w1 => ?_)
  refine ok_b1 (q_X7_bodies cR.2.1 ) (fun M4 v3 w2 => ?_)
  exact hrc _ _ _ (cR.step (RX.refl cR.1) w2)
theorem pC25 {xs : Nat → Int32} {L : Nat} {ix : Int32} {X M O : SS} {rc : Int32 → SS → SS → SS → Option Unit} (hL : L ≤ 2048) (h0 : 0 ≤ ix) (h4 : ix.toInt + 4 ≤ L) (cR : REL X M) (hrc : ∀ X M O, REL X M → ok (rc (ix + (4 : Int32)) X M O) (fun _ => True)) : ok (f_law_C25 xs L ix X M O rc) (fun _ => True) := by
  have gd1 : vp_in (ix + (1 : Int32)) L := lw_in hL h0 h4 (k := 1) (by decide)
  have gd2 : vp_in (ix + (2 : Int32)) L := lw_in hL h0 h4 (k := 2) (by decide)
  unfold f_law_C25
  refine ok_gd gd1 (fun _ => ?_)
  refine ok_gd gd2 (fun _ => ?_)
  refine ok_b2 (q_L_read cR.1 O (xs ((ix + (1 : Int32))).toNatClampNeg) (xs ((ix + (2 : Int32))).toNatClampNeg)) (fun X4 O5 v3 w1 => ?_)
  refine ok_gd gd1 (fun _ => ?_)
  refine ok_gd gd2 (fun _ => ?_)
  refine ok_b1 (q_X7_read cR.2.1 (xs ((ix + (1 : Int32))).toNatClampNeg) (xs ((ix + (2 : Int32))).toNatClampNeg)) (fun M10 v9 w2 => ?_)
  exact hrc _ _ _ (cR.step w1 w2)
theorem pC26 {xs : Nat → Int32} {L : Nat} {ix : Int32} {X M O : SS} {rc : Int32 → SS → SS → SS → Option Unit} (hL : L ≤ 2048) (h0 : 0 ≤ ix) (h4 : ix.toInt + 4 ≤ L) (cR : REL X M) (hrc : ∀ X M O, REL X M → ok (rc (ix + (4 : Int32)) X M O) (fun _ => True)) : ok (f_law_C26 xs L ix X M O rc) (fun _ => True) := by
  have gd1 : vp_in (ix + (1 : Int32)) L := lw_in hL h0 h4 (k := 1) (by decide)
  have gd2 : vp_in (ix + (2 : Int32)) L := lw_in hL h0 h4 (k := 2) (by decide)
  unfold f_law_C26
  refine ok_gd gd1 (fun _ => ?_)
  refine ok_gd gd2 (fun _ => ?_)
  refine ok_b1 (q_L_copy cR.1 O (xs ((ix + (1 : Int32))).toNatClampNeg) (xs ((ix + (2 : Int32))).toNatClampNeg)) (fun O4 v3 w1 => ?_)
  refine ok_gd gd1 (fun _ => ?_)
  refine ok_gd gd2 (fun _ => ?_)
  refine ok_b1 (q_X7_copy cR.2.1 (xs ((ix + (1 : Int32))).toNatClampNeg) (xs ((ix + (2 : Int32))).toNatClampNeg)) (fun M9 v8 w2 => ?_)
  exact hrc _ _ _ (cR.step (RX.refl cR.1) w2)
theorem pC27 {xs : Nat → Int32} {L : Nat} {ix : Int32} {X M O : SS} {rc : Int32 → SS → SS → SS → Option Unit} (hL : L ≤ 2048) (h0 : 0 ≤ ix) (h4 : ix.toInt + 4 ≤ L) (cR : REL X M) (hrc : ∀ X M O, REL X M → ok (rc (ix + (4 : Int32)) X M O) (fun _ => True)) : ok (f_law_C27 xs L ix X M O rc) (fun _ => True) := by
  have gd1 : vp_in (ix + (1 : Int32)) L := lw_in hL h0 h4 (k := 1) (by decide)
  have gd2 : vp_in (ix + (2 : Int32)) L := lw_in hL h0 h4 (k := 2) (by decide)
  have gd3 : vp_in (ix + (3 : Int32)) L := lw_in hL h0 h4 (k := 3) (by decide)
  unfold f_law_C27
  refine ok_gd gd1 (fun _ => ?_)
  refine ok_gd gd2 (fun _ => ?_)
  refine ok_gd gd3 (fun _ => ?_)
  refine ok_b2 (q_L_vote cR.1 O (xs ((ix + (1 : Int32))).toNatClampNeg) (xs ((ix + (2 : Int32))).toNatClampNeg) (xs ((ix + (3 : Int32))).toNatClampNeg)) (fun X5 O6 v4 w1 => ?_)
  refine ok_gd gd1 (fun _ => ?_)
  refine ok_gd gd2 (fun _ => ?_)
  refine ok_gd gd3 (fun _ => ?_)
  refine ok_b1 (q_X7_vote cR.2.1 (xs ((ix + (1 : Int32))).toNatClampNeg) (xs ((ix + (2 : Int32))).toNatClampNeg) (xs ((ix + (3 : Int32))).toNatClampNeg)) (fun M12 v11 w2 => ?_)
  exact hrc _ _ _ (cR.step w1 w2)
theorem pC28 {xs : Nat → Int32} {L : Nat} {ix : Int32} {X M O : SS} {rc : Int32 → SS → SS → SS → Option Unit} (hL : L ≤ 2048) (h0 : 0 ≤ ix) (h4 : ix.toInt + 4 ≤ L) (cR : REL X M) (hrc : ∀ X M O, REL X M → ok (rc (ix + (4 : Int32)) X M O) (fun _ => True)) : ok (f_law_C28 xs L ix X M O rc) (fun _ => True) := by
  have gd1 : vp_in (ix + (1 : Int32)) L := lw_in hL h0 h4 (k := 1) (by decide)
  have gd2 : vp_in (ix + (2 : Int32)) L := lw_in hL h0 h4 (k := 2) (by decide)
  unfold f_law_C28
  refine ok_gd gd1 (fun _ => ?_)
  refine ok_gd gd2 (fun _ => ?_)
  refine ok_ite (fun q1 => ?_) (fun q1 => ?_)
  · refine ok_b1 (q_L_style cR.1 O (xs ((ix + (1 : Int32))).toNatClampNeg) (0 : Int32)) (fun O5 v4 w2 => ?_)
    refine ok_gd gd1 (fun _ => ?_)
    refine ok_gd gd2 (fun _ => ?_)
    refine ok_ite (fun z => ?_) (fun z => ?_)
    · refine ok_b1 (q_X7_style cR.2.1 (xs ((ix + (1 : Int32))).toNatClampNeg) (0 : Int32)) (fun M11 v10 w3 => ?_)
      exact hrc _ _ _ (cR.step (RX.refl cR.1) w3)
    · exact absurd q1 z
  · refine ok_b1 (q_L_style cR.1 O (xs ((ix + (1 : Int32))).toNatClampNeg) (1 : Int32)) (fun O17 v16 w4 => ?_)
    refine ok_gd gd1 (fun _ => ?_)
    refine ok_gd gd2 (fun _ => ?_)
    refine ok_ite (fun z => ?_) (fun z => ?_)
    · exact absurd z q1
    · refine ok_b1 (q_X7_style cR.2.1 (xs ((ix + (1 : Int32))).toNatClampNeg) (1 : Int32)) (fun M26 v25 w5 => ?_)
      exact hrc _ _ _ (cR.step (RX.refl cR.1) w5)
theorem pC29 {xs : Nat → Int32} {L : Nat} {ix : Int32} {X M O : SS} {rc : Int32 → SS → SS → SS → Option Unit} (hL : L ≤ 2048) (h0 : 0 ≤ ix) (h4 : ix.toInt + 4 ≤ L) (cR : REL X M) (hrc : ∀ X M O, REL X M → ok (rc (ix + (4 : Int32)) X M O) (fun _ => True)) : ok (f_law_C29 xs L ix X M O rc) (fun _ => True) := by
  have gd1 : vp_in (ix + (1 : Int32)) L := lw_in hL h0 h4 (k := 1) (by decide)
  unfold f_law_C29
  refine ok_gd gd1 (fun _ => ?_)
  refine ok_b1 (q_L_review cR.1 O (xs ((ix + (1 : Int32))).toNatClampNeg)) (fun O3 v2 w1 => ?_)
  refine ok_gd gd1 (fun _ => ?_)
  refine ok_b1 (q_X7_review cR.2.1 (xs ((ix + (1 : Int32))).toNatClampNeg)) (fun M7 v6 w2 => ?_)
  exact hrc _ _ _ (cR.step (RX.refl cR.1) w2)
theorem pC30 {xs : Nat → Int32} {L : Nat} {ix : Int32} {X M O : SS} {rc : Int32 → SS → SS → SS → Option Unit} (hL : L ≤ 2048) (h0 : 0 ≤ ix) (h4 : ix.toInt + 4 ≤ L) (cR : REL X M) (hrc : ∀ X M O, REL X M → ok (rc (ix + (4 : Int32)) X M O) (fun _ => True)) : ok (f_law_C30 xs L ix X M O rc) (fun _ => True) := by
  have gd1 : vp_in (ix + (1 : Int32)) L := lw_in hL h0 h4 (k := 1) (by decide)
  have gd2 : vp_in (ix + (2 : Int32)) L := lw_in hL h0 h4 (k := 2) (by decide)
  unfold f_law_C30
  refine ok_gd gd1 (fun _ => ?_)
  refine ok_gd gd2 (fun _ => ?_)
  refine ok_b2 (q_L_best cR.1 O (xs ((ix + (1 : Int32))).toNatClampNeg) (xs ((ix + (2 : Int32))).toNatClampNeg)) (fun X4 O5 v3 w1 => ?_)
  refine ok_gd gd1 (fun _ => ?_)
  refine ok_gd gd2 (fun _ => ?_)
  refine ok_b1 (q_X7_best cR.2.1 (xs ((ix + (1 : Int32))).toNatClampNeg) (xs ((ix + (2 : Int32))).toNatClampNeg)) (fun M10 v9 w2 => ?_)
  exact hrc _ _ _ (cR.step w1 w2)
theorem pC31 {xs : Nat → Int32} {L : Nat} {ix : Int32} {X M O : SS} {rc : Int32 → SS → SS → SS → Option Unit} (hL : L ≤ 2048) (h0 : 0 ≤ ix) (h4 : ix.toInt + 4 ≤ L) (cR : REL X M) (hrc : ∀ X M O, REL X M → ok (rc (ix + (4 : Int32)) X M O) (fun _ => True)) : ok (f_law_C31 xs L ix X M O rc) (fun _ => True) := by
  have gd1 : vp_in (ix + (1 : Int32)) L := lw_in hL h0 h4 (k := 1) (by decide)
  unfold f_law_C31
  refine ok_gd gd1 (fun _ => ?_)
  refine ok_b2 (q_L_points cR.1 O (xs ((ix + (1 : Int32))).toNatClampNeg)) (fun X3 O4 v2 w1 => ?_)
  refine ok_gd gd1 (fun _ => ?_)
  refine ok_b1 (q_X7_points cR.2.1 (xs ((ix + (1 : Int32))).toNatClampNeg)) (fun M8 v7 w2 => ?_)
  exact hrc _ _ _ (cR.step w1 w2)
theorem pC32 {xs : Nat → Int32} {L : Nat} {ix : Int32} {X M O : SS} {rc : Int32 → SS → SS → SS → Option Unit} (hL : L ≤ 2048) (h0 : 0 ≤ ix) (h4 : ix.toInt + 4 ≤ L) (cR : REL X M) (hrc : ∀ X M O, REL X M → ok (rc (ix + (4 : Int32)) X M O) (fun _ => True)) : ok (f_law_C32 xs L ix X M O rc) (fun _ => True) := by
  have gd1 : vp_in (ix + (1 : Int32)) L := lw_in hL h0 h4 (k := 1) (by decide)
  unfold f_law_C32
  refine ok_gd gd1 (fun _ => ?_)
  refine ok_b2 (q_L_belt cR.1 O (xs ((ix + (1 : Int32))).toNatClampNeg)) (fun X3 O4 v2 w1 => ?_)
  refine ok_gd gd1 (fun _ => ?_)
  refine ok_b1 (q_X7_belt cR.2.1 (xs ((ix + (1 : Int32))).toNatClampNeg)) (fun M8 v7 w2 => ?_)
  exact hrc _ _ _ (cR.step w1 w2)
theorem pC33 {xs : Nat → Int32} {L : Nat} {ix : Int32} {X M O : SS} {rc : Int32 → SS → SS → SS → Option Unit} (hL : L ≤ 2048) (h0 : 0 ≤ ix) (h4 : ix.toInt + 4 ≤ L) (cR : REL X M) (hrc : ∀ X M O, REL X M → ok (rc (ix + (4 : Int32)) X M O) (fun _ => True)) : ok (f_law_C33 xs L ix X M O rc) (fun _ => True) := by
  have gd1 : vp_in (ix + (1 : Int32)) L := lw_in hL h0 h4 (k := 1) (by decide)
  unfold f_law_C33
  refine ok_gd gd1 (fun _ => ?_)
  refine ok_b1 (q_L_honour cR.1 O (xs ((ix + (1 : Int32))).toNatClampNeg)) (fun O3 v2 w1 => ?_)
  refine ok_gd gd1 (fun _ => ?_)
  refine ok_b1 (q_X7_honour cR.2.1 (xs ((ix + (1 : Int32))).toNatClampNeg)) (fun M7 v6 w2 => ?_)
  exact hrc _ _ _ (cR.step (RX.refl cR.1) w2)
theorem pC34 {xs : Nat → Int32} {L : Nat} {ix : Int32} {X M O : SS} {rc : Int32 → SS → SS → SS → Option Unit} (hL : L ≤ 2048) (h0 : 0 ≤ ix) (h4 : ix.toInt + 4 ≤ L) (cR : REL X M) (hrc : ∀ X M O, REL X M → ok (rc (ix + (4 : Int32)) X M O) (fun _ => True)) : ok (f_law_C34 xs L ix X M O rc) (fun _ => True) := by
  have gd1 : vp_in (ix + (1 : Int32)) L := lw_in hL h0 h4 (k := 1) (by decide)
  unfold f_law_C34
  refine ok_gd gd1 (fun _ => ?_)
  refine ok_b2 (q_L_ranked cR.1 O (xs ((ix + (1 : Int32))).toNatClampNeg)) (fun X3 O4 v2 w1 => ?_)
  refine ok_gd gd1 (fun _ => ?_)
  refine ok_b1 (q_X7_ranked cR.2.1 (xs ((ix + (1 : Int32))).toNatClampNeg)) (fun M8 v7 w2 => ?_)
  exact hrc _ _ _ (cR.step w1 w2)
theorem pC35 {xs : Nat → Int32} {L : Nat} {ix : Int32} {X M O : SS} {rc : Int32 → SS → SS → SS → Option Unit} (hL : L ≤ 2048) (h0 : 0 ≤ ix) (h4 : ix.toInt + 4 ≤ L) (cR : REL X M) (hrc : ∀ X M O, REL X M → ok (rc (ix + (4 : Int32)) X M O) (fun _ => True)) : ok (f_law_C35 xs L ix X M O rc) (fun _ => True) := by
  have gd1 : vp_in (ix + (1 : Int32)) L := lw_in hL h0 h4 (k := 1) (by decide)
  have gd2 : vp_in (ix + (2 : Int32)) L := lw_in hL h0 h4 (k := 2) (by decide)
  unfold f_law_C35
  refine ok_gd gd1 (fun _ => ?_)
  refine ok_gd gd2 (fun _ => ?_)
  refine ok_b2 (q_L_challenge cR.1 O (xs ((ix + (1 : Int32))).toNatClampNeg) (xs ((ix + (2 : Int32))).toNatClampNeg)) (fun X4 O5 v3 w1 => ?_)
  refine ok_gd gd1 (fun _ => ?_)
  refine ok_gd gd2 (fun _ => ?_)
  refine ok_b1 (q_X7_challenge cR.2.1 (xs ((ix + (1 : Int32))).toNatClampNeg) (xs ((ix + (2 : Int32))).toNatClampNeg)) (fun M10 v9 w2 => ?_)
  exact hrc _ _ _ (cR.step w1 w2)
theorem pC36 {xs : Nat → Int32} {L : Nat} {ix : Int32} {X M O : SS} {rc : Int32 → SS → SS → SS → Option Unit} (hL : L ≤ 2048) (h0 : 0 ≤ ix) (h4 : ix.toInt + 4 ≤ L) (cR : REL X M) (hrc : ∀ X M O, REL X M → ok (rc (ix + (4 : Int32)) X M O) (fun _ => True)) : ok (f_law_C36 xs L ix X M O rc) (fun _ => True) := by
  have gd1 : vp_in (ix + (1 : Int32)) L := lw_in hL h0 h4 (k := 1) (by decide)
  have gd2 : vp_in (ix + (2 : Int32)) L := lw_in hL h0 h4 (k := 2) (by decide)
  unfold f_law_C36
  refine ok_gd gd1 (fun _ => ?_)
  refine ok_gd gd2 (fun _ => ?_)
  refine ok_b2 (q_L_give cR.1 O (xs ((ix + (1 : Int32))).toNatClampNeg) (xs ((ix + (2 : Int32))).toNatClampNeg)) (fun X4 O5 v3 w1 => ?_)
  refine ok_gd gd1 (fun _ => ?_)
  refine ok_gd gd2 (fun _ => ?_)
  refine ok_b1 (q_X7_give cR.2.1 (xs ((ix + (1 : Int32))).toNatClampNeg) (xs ((ix + (2 : Int32))).toNatClampNeg)) (fun M10 v9 w2 => ?_)
  exact hrc _ _ _ (cR.step w1 w2)
theorem pC37 {xs : Nat → Int32} {L : Nat} {ix : Int32} {X M O : SS} {rc : Int32 → SS → SS → SS → Option Unit} (hL : L ≤ 2048) (h0 : 0 ≤ ix) (h4 : ix.toInt + 4 ≤ L) (cR : REL X M) (hrc : ∀ X M O, REL X M → ok (rc (ix + (4 : Int32)) X M O) (fun _ => True)) : ok (f_law_C37 xs L ix X M O rc) (fun _ => True) := by
  have gd1 : vp_in (ix + (1 : Int32)) L := lw_in hL h0 h4 (k := 1) (by decide)
  have gd2 : vp_in (ix + (2 : Int32)) L := lw_in hL h0 h4 (k := 2) (by decide)
  unfold f_law_C37
  refine ok_gd gd1 (fun _ => ?_)
  refine ok_gd gd2 (fun _ => ?_)
  refine ok_b2 (q_L_answer cR.1 O (xs ((ix + (1 : Int32))).toNatClampNeg) (xs ((ix + (2 : Int32))).toNatClampNeg)) (fun X4 O5 v3 w1 => ?_)
  refine ok_gd gd1 (fun _ => ?_)
  refine ok_gd gd2 (fun _ => ?_)
  refine ok_b1 (q_X7_answer cR.2.1 (xs ((ix + (1 : Int32))).toNatClampNeg) (xs ((ix + (2 : Int32))).toNatClampNeg)) (fun M10 v9 w2 => ?_)
  exact hrc _ _ _ (cR.step w1 w2)
theorem pC38 {xs : Nat → Int32} {L : Nat} {ix : Int32} {X M O : SS} {rc : Int32 → SS → SS → SS → Option Unit} (hL : L ≤ 2048) (h0 : 0 ≤ ix) (h4 : ix.toInt + 4 ≤ L) (cR : REL X M) (hrc : ∀ X M O, REL X M → ok (rc (ix + (4 : Int32)) X M O) (fun _ => True)) : ok (f_law_C38 xs L ix X M O rc) (fun _ => True) := by
  have gd1 : vp_in (ix + (1 : Int32)) L := lw_in hL h0 h4 (k := 1) (by decide)
  unfold f_law_C38
  refine ok_gd gd1 (fun _ => ?_)
  refine ok_b1 (q_L_open cR.1 O (xs ((ix + (1 : Int32))).toNatClampNeg)) (fun O3 v2 w1 => ?_)
  refine ok_gd gd1 (fun _ => ?_)
  refine ok_b1 (q_X7_open cR.2.1 (xs ((ix + (1 : Int32))).toNatClampNeg)) (fun M7 v6 w2 => ?_)
  exact hrc _ _ _ (cR.step (RX.refl cR.1) w2)
theorem pC39 {xs : Nat → Int32} {L : Nat} {ix : Int32} {X M O : SS} {rc : Int32 → SS → SS → SS → Option Unit} (hL : L ≤ 2048) (h0 : 0 ≤ ix) (h4 : ix.toInt + 4 ≤ L) (cR : REL X M) (hrc : ∀ X M O, REL X M → ok (rc (ix + (4 : Int32)) X M O) (fun _ => True)) : ok (f_law_C39 xs L ix X M O rc) (fun _ => True) := by
  have gd1 : vp_in (ix + (1 : Int32)) L := lw_in hL h0 h4 (k := 1) (by decide)
  unfold f_law_C39
  refine ok_gd gd1 (fun _ => ?_)
  refine ok_b1 (q_L_left cR.1 O (xs ((ix + (1 : Int32))).toNatClampNeg)) (fun O3 v2 w1 => ?_)
  refine ok_gd gd1 (fun _ => ?_)
  refine ok_b1 (q_X7_left cR.2.1 (xs ((ix + (1 : Int32))).toNatClampNeg)) (fun M7 v6 w2 => ?_)
  exact hrc _ _ _ (cR.step (RX.refl cR.1) w2)
theorem pC40 {xs : Nat → Int32} {L : Nat} {ix : Int32} {X M O : SS} {rc : Int32 → SS → SS → SS → Option Unit} (hL : L ≤ 2048) (h0 : 0 ≤ ix) (h4 : ix.toInt + 4 ≤ L) (cR : REL X M) (hrc : ∀ X M O, REL X M → ok (rc (ix + (4 : Int32)) X M O) (fun _ => True)) : ok (f_law_C40 xs L ix X M O rc) (fun _ => True) := by
  have gd1 : vp_in (ix + (1 : Int32)) L := lw_in hL h0 h4 (k := 1) (by decide)
  unfold f_law_C40
  refine ok_gd gd1 (fun _ => ?_)
  refine ok_b2 (q_L_days cR.1 O (xs ((ix + (1 : Int32))).toNatClampNeg)) (fun X3 O4 v2 w1 => ?_)
  refine ok_gd gd1 (fun _ => ?_)
  refine ok_b1 (q_X7_days cR.2.1 (xs ((ix + (1 : Int32))).toNatClampNeg)) (fun M8 v7 w2 => ?_)
  exact hrc _ _ _ (cR.step w1 w2)
theorem pC41 {xs : Nat → Int32} {L : Nat} {ix : Int32} {X M O : SS} {rc : Int32 → SS → SS → SS → Option Unit} (hL : L ≤ 2048) (h0 : 0 ≤ ix) (h4 : ix.toInt + 4 ≤ L) (cR : REL X M) (hrc : ∀ X M O, REL X M → ok (rc (ix + (4 : Int32)) X M O) (fun _ => True)) : ok (f_law_C41 xs L ix X M O rc) (fun _ => True) := by
  unfold f_law_C41
  refine ok_b0 (q_X6_checksum cR.1 ) (fun v1 w1 => ?_)
  refine ok_b1 (q_X7_checksum cR.2.1 ) (fun M4 v3 w2 => ?_)
  exact hrc _ _ _ (cR.step (RX.refl cR.1) w2)
theorem pC42 {xs : Nat → Int32} {L : Nat} {ix : Int32} {X M O : SS} {rc : Int32 → SS → SS → SS → Option Unit} (hL : L ≤ 2048) (h0 : 0 ≤ ix) (h4 : ix.toInt + 4 ≤ L) (cR : REL X M) (hrc : ∀ X M O, REL X M → ok (rc (ix + (4 : Int32)) X M O) (fun _ => True)) : ok (f_law_C42 xs L ix X M O rc) (fun _ => True) := by
  unfold f_law_C42
  refine ok_b1 (q_L_standingShare cR.1 O) (fun O2 v1 w1 => ?_)
  refine ok_b1 (q_X7_standingShare cR.2.1 ) (fun M5 v4 w2 => ?_)
  exact hrc _ _ _ (cR.step (RX.refl cR.1) w2)
theorem pC43 {xs : Nat → Int32} {L : Nat} {ix : Int32} {X M O : SS} {rc : Int32 → SS → SS → SS → Option Unit} (hL : L ≤ 2048) (h0 : 0 ≤ ix) (h4 : ix.toInt + 4 ≤ L) (cR : REL X M) (hrc : ∀ X M O, REL X M → ok (rc (ix + (4 : Int32)) X M O) (fun _ => True)) : ok (f_law_C43 xs L ix X M O rc) (fun _ => True) := by
  have gd1 : vp_in (ix + (1 : Int32)) L := lw_in hL h0 h4 (k := 1) (by decide)
  unfold f_law_C43
  refine ok_gd gd1 (fun _ => ?_)
  refine ok_b2 (q_L_meanSteps cR.1 O (xs ((ix + (1 : Int32))).toNatClampNeg)) (fun X3 O4 v2 w1 => ?_)
  refine ok_gd gd1 (fun _ => ?_)
  refine ok_b1 (q_X7_meanSteps cR.2.1 (xs ((ix + (1 : Int32))).toNatClampNeg)) (fun M8 v7 w2 => ?_)
  exact hrc _ _ _ (cR.step w1 w2)
theorem pC44 {xs : Nat → Int32} {L : Nat} {ix : Int32} {X M O : SS} {rc : Int32 → SS → SS → SS → Option Unit} (hL : L ≤ 2048) (h0 : 0 ≤ ix) (h4 : ix.toInt + 4 ≤ L) (cR : REL X M) (hrc : ∀ X M O, REL X M → ok (rc (ix + (4 : Int32)) X M O) (fun _ => True)) : ok (f_law_C44 xs L ix X M O rc) (fun _ => True) := by
  unfold f_law_C44
  refine ok_b1 (q_X6_isSound cR.1 ) (fun X2 v1 w1 => ?_)
  refine ok_b1 (q_X7_isSound cR.2.1 ) (fun M5 v4 w2 => ?_)
  exact hrc _ _ _ (cR.step w1 w2)