theorem pC0 {xs : Nat → Int32} {L : Nat} {ix : Int32} {O : SS} {rc : Int32 → SS → SS → SS → Option Unit} (hL : L ≤ 2048) (h0 : 0 ≤ ix) (h4 : ix.toInt + 4 ≤ L) (cR : REL S0 S0) (hrc : ∀ X M O, ok (rc (ix + (4 : Int32)) X M O) (fun _ => True)) : ok (f_law_C0 xs L ix S0 S0 O rc) (fun _ => True) := by
  have gd1 : vp_in (ix + (1 : Int32)) L := lw_in hL h0 h4 (k := 1) (by decide)
  have gd2 : vp_in (ix + (2 : Int32)) L := lw_in hL h0 h4 (k := 2) (by decide)
  unfold f_law_C0
  refine ok_gd gd1 (fun _ => ?_)
  refine ok_gd gd2 (fun _ => ?_)
  obtain ⟨jX, jO, jk, jM, jb, je1, je2, jR, jA⟩ := t_step (O := O) cR (((xs ((ix + (1 : Int32))).toNatClampNeg)).toUInt32 % 65536).toInt32 (xs ((ix + (2 : Int32))).toNatClampNeg)
  refine ok_b2e je1 ?_
  refine ok_gd gd1 (fun _ => ?_)
  refine ok_gd gd2 (fun _ => ?_)
  refine ok_b1e je2 ?_
  refine ok_b0 ⟨_, rfl, rfl⟩ (fun v12 w1 => ?_)
  refine ok_ite (fun q2 => ?_) (fun q2 => ?_)
  · refine ok_ite (fun q3 => ?_) (fun q3 => ?_)
    · refine ok_ite (fun q4 => ?_) (fun q4 => ?_)
      · exact hrc _ _ _
      · exact absurd (by have hz := jA.2 q3; show lg_cmp (jO.2.1 56 0 0) _ = 0; rw [hz]; exact lg_self _) q4
    · exact hrc _ _ _
  · exact absurd (w1.symm.trans jA.1) q2
theorem pC1 {xs : Nat → Int32} {L : Nat} {ix : Int32} {O : SS} {rc : Int32 → SS → SS → SS → Option Unit} (hL : L ≤ 2048) (h0 : 0 ≤ ix) (h4 : ix.toInt + 4 ≤ L) (cR : REL S0 S0) (hrc : ∀ X M O, ok (rc (ix + (4 : Int32)) X M O) (fun _ => True)) : ok (f_law_C1 xs L ix S0 S0 O rc) (fun _ => True) := by
  unfold f_law_C1
  obtain ⟨jX, jk, jM, jb, je1, je2, jR, jA⟩ := t_wipe cR 
  refine ok_b1e je1 ?_
  refine ok_b1e je2 ?_
  refine ok_ite (fun q1 => ?_) (fun q1 => ?_)
  · exact hrc _ _ _
  · exact absurd jA q1
theorem pC2 {xs : Nat → Int32} {L : Nat} {ix : Int32} {O : SS} {rc : Int32 → SS → SS → SS → Option Unit} (hL : L ≤ 2048) (h0 : 0 ≤ ix) (h4 : ix.toInt + 4 ≤ L) (cR : REL S0 S0) (hrc : ∀ X M O, ok (rc (ix + (4 : Int32)) X M O) (fun _ => True)) : ok (f_law_C2 xs L ix S0 S0 O rc) (fun _ => True) := by
  have gd1 : vp_in (ix + (1 : Int32)) L := lw_in hL h0 h4 (k := 1) (by decide)
  have gd2 : vp_in (ix + (2 : Int32)) L := lw_in hL h0 h4 (k := 2) (by decide)
  unfold f_law_C2
  refine ok_gd gd1 (fun _ => ?_)
  refine ok_gd gd2 (fun _ => ?_)
  refine ok_ite (fun q1 => ?_) (fun q1 => ?_)
  · obtain ⟨jX, jO, jk, jM, jb, je1, je2, jR, jA⟩ := t_number (O := O) cR (xs ((ix + (1 : Int32))).toNatClampNeg) (0 : Int32)
    refine ok_b2e je1 ?_
    refine ok_gd gd1 (fun _ => ?_)
    refine ok_gd gd2 (fun _ => ?_)
    refine ok_ite (fun z => ?_) (fun z => ?_)
    · refine ok_b1e je2 ?_
      refine ok_b0 ⟨_, rfl, rfl⟩ (fun v14 w2 => ?_)
      refine ok_ite (fun q3 => ?_) (fun q3 => ?_)
      · refine ok_ite (fun q4 => ?_) (fun q4 => ?_)
        · refine ok_ite (fun q5 => ?_) (fun q5 => ?_)
          · exact hrc _ _ _
          · exact absurd (by have hz := jA.2 q4; show lg_cmp (jO.2.1 56 0 0) _ = 0; rw [hz]; exact lg_self _) q5
        · exact hrc _ _ _
      · exact absurd (w2.symm.trans jA.1) q3
    · exact absurd q1 z
  · obtain ⟨jX, jO, jk, jM, jb, je1, je2, jR, jA⟩ := t_number (O := O) cR (xs ((ix + (1 : Int32))).toNatClampNeg) (1 : Int32)
    refine ok_b2e je1 ?_
    refine ok_gd gd1 (fun _ => ?_)
    refine ok_gd gd2 (fun _ => ?_)
    refine ok_ite (fun z => ?_) (fun z => ?_)
    · exact absurd z q1
    · refine ok_b1e je2 ?_
      refine ok_b0 ⟨_, rfl, rfl⟩ (fun v45 w6 => ?_)
      refine ok_ite (fun q7 => ?_) (fun q7 => ?_)
      · refine ok_ite (fun q8 => ?_) (fun q8 => ?_)
        · refine ok_ite (fun q9 => ?_) (fun q9 => ?_)
          · exact hrc _ _ _
          · exact absurd (by have hz := jA.2 q8; show lg_cmp (jO.2.1 56 0 0) _ = 0; rw [hz]; exact lg_self _) q9
        · exact hrc _ _ _
      · exact absurd (w6.symm.trans jA.1) q7
theorem pC3 {xs : Nat → Int32} {L : Nat} {ix : Int32} {O : SS} {rc : Int32 → SS → SS → SS → Option Unit} (hL : L ≤ 2048) (h0 : 0 ≤ ix) (h4 : ix.toInt + 4 ≤ L) (cR : REL S0 S0) (hrc : ∀ X M O, ok (rc (ix + (4 : Int32)) X M O) (fun _ => True)) : ok (f_law_C3 xs L ix S0 S0 O rc) (fun _ => True) := by
  unfold f_law_C3
  obtain ⟨jX, jk, jM, jb, je1, je2, jR, jA⟩ := t_clear cR 
  refine ok_b1e je1 ?_
  refine ok_b1e je2 ?_
  refine ok_ite (fun q1 => ?_) (fun q1 => ?_)
  · exact hrc _ _ _
  · exact absurd jA q1
theorem pC4 {xs : Nat → Int32} {L : Nat} {ix : Int32} {O : SS} {rc : Int32 → SS → SS → SS → Option Unit} (hL : L ≤ 2048) (h0 : 0 ≤ ix) (h4 : ix.toInt + 4 ≤ L) (cR : REL S0 S0) (hrc : ∀ X M O, ok (rc (ix + (4 : Int32)) X M O) (fun _ => True)) : ok (f_law_C4 xs L ix S0 S0 O rc) (fun _ => True) := by
  have gd1 : vp_in (ix + (1 : Int32)) L := lw_in hL h0 h4 (k := 1) (by decide)
  unfold f_law_C4
  refine ok_gd gd1 (fun _ => ?_)
  obtain ⟨jX, jO, jk, jM, jb, je1, je2, jR, jA⟩ := t_kata (O := O) cR (xs ((ix + (1 : Int32))).toNatClampNeg)
  refine ok_b2e je1 ?_
  refine ok_gd gd1 (fun _ => ?_)
  refine ok_b1e je2 ?_
  refine ok_b0 ⟨_, rfl, rfl⟩ (fun v10 w1 => ?_)
  refine ok_ite (fun q2 => ?_) (fun q2 => ?_)
  · refine ok_ite (fun q3 => ?_) (fun q3 => ?_)
    · refine ok_ite (fun q4 => ?_) (fun q4 => ?_)
      · exact hrc _ _ _
      · exact absurd (by have hz := jA.2 q3; show lg_cmp (jO.2.1 56 0 0) _ = 0; rw [hz]; exact lg_self _) q4
    · exact hrc _ _ _
  · exact absurd (w1.symm.trans jA.1) q2
theorem pC5 {xs : Nat → Int32} {L : Nat} {ix : Int32} {O : SS} {rc : Int32 → SS → SS → SS → Option Unit} (hL : L ≤ 2048) (h0 : 0 ≤ ix) (h4 : ix.toInt + 4 ≤ L) (cR : REL S0 S0) (hrc : ∀ X M O, ok (rc (ix + (4 : Int32)) X M O) (fun _ => True)) : ok (f_law_C5 xs L ix S0 S0 O rc) (fun _ => True) := by
  have gd1 : vp_in (ix + (1 : Int32)) L := lw_in hL h0 h4 (k := 1) (by decide)
  unfold f_law_C5
  refine ok_gd gd1 (fun _ => ?_)
  obtain ⟨jX, jO, jk, jM, jb, je1, je2, jR, jA⟩ := z_test (O := O) cR (xs ((ix + (1 : Int32))).toNatClampNeg)
  refine ok_b2e je1 ?_
  refine ok_gd gd1 (fun _ => ?_)
  refine ok_b1e je2 ?_
  refine ok_b0 ⟨_, rfl, rfl⟩ (fun v10 w1 => ?_)
  refine ok_ite (fun q2 => ?_) (fun q2 => ?_)
  · refine ok_ite (fun z => absurd z jA.2) (fun _ => ?_)
    exact hrc _ _ _
  · exact absurd (w1.symm.trans jA.1) q2
theorem pC6 {xs : Nat → Int32} {L : Nat} {ix : Int32} {O : SS} {rc : Int32 → SS → SS → SS → Option Unit} (hL : L ≤ 2048) (h0 : 0 ≤ ix) (h4 : ix.toInt + 4 ≤ L) (cR : REL S0 S0) (hrc : ∀ X M O, ok (rc (ix + (4 : Int32)) X M O) (fun _ => True)) : ok (f_law_C6 xs L ix S0 S0 O rc) (fun _ => True) := by
  have gd1 : vp_in (ix + (1 : Int32)) L := lw_in hL h0 h4 (k := 1) (by decide)
  have gd2 : vp_in (ix + (2 : Int32)) L := lw_in hL h0 h4 (k := 2) (by decide)
  unfold f_law_C6
  refine ok_gd gd1 (fun _ => ?_)
  refine ok_gd gd2 (fun _ => ?_)
  obtain ⟨jX, jO, jk, jM, jb, je1, je2, jR, jA⟩ := z_fix (O := O) cR (xs ((ix + (1 : Int32))).toNatClampNeg) (xs ((ix + (2 : Int32))).toNatClampNeg)
  refine ok_b2e je1 ?_
  refine ok_gd gd1 (fun _ => ?_)
  refine ok_gd gd2 (fun _ => ?_)
  refine ok_b1e je2 ?_
  refine ok_b0 ⟨_, rfl, rfl⟩ (fun v12 w1 => ?_)
  refine ok_ite (fun q2 => ?_) (fun q2 => ?_)
  · refine ok_ite (fun z => absurd z jA.2) (fun _ => ?_)
    exact hrc _ _ _
  · exact absurd (w1.symm.trans jA.1) q2
theorem pC7 {xs : Nat → Int32} {L : Nat} {ix : Int32} {O : SS} {rc : Int32 → SS → SS → SS → Option Unit} (hL : L ≤ 2048) (h0 : 0 ≤ ix) (h4 : ix.toInt + 4 ≤ L) (cR : REL S0 S0) (hrc : ∀ X M O, ok (rc (ix + (4 : Int32)) X M O) (fun _ => True)) : ok (f_law_C7 xs L ix S0 S0 O rc) (fun _ => True) := by
  have gd1 : vp_in (ix + (1 : Int32)) L := lw_in hL h0 h4 (k := 1) (by decide)
  unfold f_law_C7
  refine ok_gd gd1 (fun _ => ?_)
  obtain ⟨jO, jk, jM, jb, je1, je2, jR, jA⟩ := t_tests (O := O) cR (xs ((ix + (1 : Int32))).toNatClampNeg)
  refine ok_b1e je1 ?_
  refine ok_gd gd1 (fun _ => ?_)
  refine ok_b1e je2 ?_
  refine ok_b0 ⟨_, rfl, rfl⟩ (fun v9 w1 => ?_)
  refine ok_ite (fun q2 => ?_) (fun q2 => ?_)
  · refine ok_ite (fun q3 => ?_) (fun q3 => ?_)
    · refine ok_ite (fun q4 => ?_) (fun q4 => ?_)
      · exact hrc _ _ _
      · exact absurd (by have hz := jA.2 q3; show lg_cmp (jO.2.1 56 0 0) _ = 0; rw [hz]; exact lg_self _) q4
    · exact hrc _ _ _
  · exact absurd (w1.symm.trans jA.1) q2
theorem pC8 {xs : Nat → Int32} {L : Nat} {ix : Int32} {O : SS} {rc : Int32 → SS → SS → SS → Option Unit} (hL : L ≤ 2048) (h0 : 0 ≤ ix) (h4 : ix.toInt + 4 ≤ L) (cR : REL S0 S0) (hrc : ∀ X M O, ok (rc (ix + (4 : Int32)) X M O) (fun _ => True)) : ok (f_law_C8 xs L ix S0 S0 O rc) (fun _ => True) := by
  have gd1 : vp_in (ix + (1 : Int32)) L := lw_in hL h0 h4 (k := 1) (by decide)
  have gd2 : vp_in (ix + (2 : Int32)) L := lw_in hL h0 h4 (k := 2) (by decide)
  unfold f_law_C8
  refine ok_gd gd1 (fun _ => ?_)
  refine ok_gd gd2 (fun _ => ?_)
  obtain ⟨jX, jO, jk, jM, jb, je1, je2, jR, jA⟩ := t_run (O := O) cR (xs ((ix + (1 : Int32))).toNatClampNeg) (xs ((ix + (2 : Int32))).toNatClampNeg)
  refine ok_b2e je1 ?_
  refine ok_gd gd1 (fun _ => ?_)
  refine ok_gd gd2 (fun _ => ?_)
  refine ok_b1e je2 ?_
  refine ok_b0 ⟨_, rfl, rfl⟩ (fun v12 w1 => ?_)
  refine ok_ite (fun q2 => ?_) (fun q2 => ?_)
  · refine ok_ite (fun q3 => ?_) (fun q3 => ?_)
    · refine ok_ite (fun q4 => ?_) (fun q4 => ?_)
      · exact hrc _ _ _
      · exact absurd (by have hz := jA.2 q3; show lg_cmp (jO.2.1 56 0 0) _ = 0; rw [hz]; exact lg_self _) q4
    · exact hrc _ _ _
  · exact absurd (w1.symm.trans jA.1) q2
theorem pC9 {xs : Nat → Int32} {L : Nat} {ix : Int32} {O : SS} {rc : Int32 → SS → SS → SS → Option Unit} (hL : L ≤ 2048) (h0 : 0 ≤ ix) (h4 : ix.toInt + 4 ≤ L) (cR : REL S0 S0) (hrc : ∀ X M O, ok (rc (ix + (4 : Int32)) X M O) (fun _ => True)) : ok (f_law_C9 xs L ix S0 S0 O rc) (fun _ => True) := by
  unfold f_law_C9
  obtain ⟨jO, jk, jM, jb, je1, je2, jR, jA⟩ := t_done (O := O) cR 
  refine ok_b1e je1 ?_
  refine ok_b1e je2 ?_
  refine ok_b0 ⟨_, rfl, rfl⟩ (fun v7 w1 => ?_)
  refine ok_ite (fun q2 => ?_) (fun q2 => ?_)
  · refine ok_ite (fun q3 => ?_) (fun q3 => ?_)
    · refine ok_ite (fun q4 => ?_) (fun q4 => ?_)
      · exact hrc _ _ _
      · exact absurd (by have hz := jA.2 q3; show lg_cmp (jO.2.1 56 0 0) _ = 0; rw [hz]; exact lg_self _) q4
    · exact hrc _ _ _
  · exact absurd (w1.symm.trans jA.1) q2
theorem pC10 {xs : Nat → Int32} {L : Nat} {ix : Int32} {O : SS} {rc : Int32 → SS → SS → SS → Option Unit} (hL : L ≤ 2048) (h0 : 0 ≤ ix) (h4 : ix.toInt + 4 ≤ L) (cR : REL S0 S0) (hrc : ∀ X M O, ok (rc (ix + (4 : Int32)) X M O) (fun _ => True)) : ok (f_law_C10 xs L ix S0 S0 O rc) (fun _ => True) := by
  unfold f_law_C10
  obtain ⟨jO, jk, jM, jb, je1, je2, jR, jA⟩ := t_outputs (O := O) cR 
  refine ok_b1e je1 ?_
  refine ok_b1e je2 ?_
  refine ok_b0 ⟨_, rfl, rfl⟩ (fun v7 w1 => ?_)
  refine ok_ite (fun q2 => ?_) (fun q2 => ?_)
  · refine ok_ite (fun q3 => ?_) (fun q3 => ?_)
    · refine ok_ite (fun q4 => ?_) (fun q4 => ?_)
      · exact hrc _ _ _
      · exact absurd (by have hz := jA.2 q3; show lg_cmp (jO.2.1 56 0 0) _ = 0; rw [hz]; exact lg_self _) q4
    · exact hrc _ _ _
  · exact absurd (w1.symm.trans jA.1) q2
theorem pC11 {xs : Nat → Int32} {L : Nat} {ix : Int32} {O : SS} {rc : Int32 → SS → SS → SS → Option Unit} (hL : L ≤ 2048) (h0 : 0 ≤ ix) (h4 : ix.toInt + 4 ≤ L) (cR : REL S0 S0) (hrc : ∀ X M O, ok (rc (ix + (4 : Int32)) X M O) (fun _ => True)) : ok (f_law_C11 xs L ix S0 S0 O rc) (fun _ => True) := by
  have gd1 : vp_in (ix + (1 : Int32)) L := lw_in hL h0 h4 (k := 1) (by decide)
  unfold f_law_C11
  refine ok_gd gd1 (fun _ => ?_)
  obtain ⟨jO, jk, jM, jb, je1, je2, jR, jA⟩ := t_output (O := O) cR (xs ((ix + (1 : Int32))).toNatClampNeg)
  refine ok_b1e je1 ?_
  refine ok_gd gd1 (fun _ => ?_)
  refine ok_b1e je2 ?_
  refine ok_b0 ⟨_, rfl, rfl⟩ (fun v9 w1 => ?_)
  refine ok_ite (fun q2 => ?_) (fun q2 => ?_)
  · refine ok_ite (fun q3 => ?_) (fun q3 => ?_)
    · refine ok_ite (fun q4 => ?_) (fun q4 => ?_)
      · exact hrc _ _ _
      · exact absurd (by have hz := jA.2 q3; show lg_cmp (jO.2.1 56 0 0) _ = 0; rw [hz]; exact lg_self _) q4
    · exact hrc _ _ _
  · exact absurd (w1.symm.trans jA.1) q2
theorem pC12 {xs : Nat → Int32} {L : Nat} {ix : Int32} {O : SS} {rc : Int32 → SS → SS → SS → Option Unit} (hL : L ≤ 2048) (h0 : 0 ≤ ix) (h4 : ix.toInt + 4 ≤ L) (cR : REL S0 S0) (hrc : ∀ X M O, ok (rc (ix + (4 : Int32)) X M O) (fun _ => True)) : ok (f_law_C12 xs L ix S0 S0 O rc) (fun _ => True) := by
  unfold f_law_C12
  obtain ⟨jO, jk, jM, jb, je1, je2, jR, jA⟩ := t_depth (O := O) cR 
  refine ok_b1e je1 ?_
  refine ok_b1e je2 ?_
  refine ok_b0 ⟨_, rfl, rfl⟩ (fun v7 w1 => ?_)
  refine ok_ite (fun q2 => ?_) (fun q2 => ?_)
  · refine ok_ite (fun q3 => ?_) (fun q3 => ?_)
    · refine ok_ite (fun q4 => ?_) (fun q4 => ?_)
      · exact hrc _ _ _
      · exact absurd (by have hz := jA.2 q3; show lg_cmp (jO.2.1 56 0 0) _ = 0; rw [hz]; exact lg_self _) q4
    · exact hrc _ _ _
  · exact absurd (w1.symm.trans jA.1) q2
theorem pC13 {xs : Nat → Int32} {L : Nat} {ix : Int32} {O : SS} {rc : Int32 → SS → SS → SS → Option Unit} (hL : L ≤ 2048) (h0 : 0 ≤ ix) (h4 : ix.toInt + 4 ≤ L) (cR : REL S0 S0) (hrc : ∀ X M O, ok (rc (ix + (4 : Int32)) X M O) (fun _ => True)) : ok (f_law_C13 xs L ix S0 S0 O rc) (fun _ => True) := by
  unfold f_law_C13
  obtain ⟨jX, jO, jk, jM, jb, je1, je2, jR, jA⟩ := t_member (O := O) cR 
  refine ok_b2e je1 ?_
  refine ok_b1e je2 ?_
  refine ok_b0 ⟨_, rfl, rfl⟩ (fun v8 w1 => ?_)
  refine ok_ite (fun q2 => ?_) (fun q2 => ?_)
  · refine ok_ite (fun q3 => ?_) (fun q3 => ?_)
    · refine ok_ite (fun q4 => ?_) (fun q4 => ?_)
      · exact hrc _ _ _
      · exact absurd (by have hz := jA.2 q3; show lg_cmp (jO.2.1 56 0 0) _ = 0; rw [hz]; exact lg_self _) q4
    · exact hrc _ _ _
  · exact absurd (w1.symm.trans jA.1) q2
theorem pC14 {xs : Nat → Int32} {L : Nat} {ix : Int32} {O : SS} {rc : Int32 → SS → SS → SS → Option Unit} (hL : L ≤ 2048) (h0 : 0 ≤ ix) (h4 : ix.toInt + 4 ≤ L) (cR : REL S0 S0) (hrc : ∀ X M O, ok (rc (ix + (4 : Int32)) X M O) (fun _ => True)) : ok (f_law_C14 xs L ix S0 S0 O rc) (fun _ => True) := by
  have gd1 : vp_in (ix + (1 : Int32)) L := lw_in hL h0 h4 (k := 1) (by decide)
  have gd2 : vp_in (ix + (2 : Int32)) L := lw_in hL h0 h4 (k := 2) (by decide)
  unfold f_law_C14
  refine ok_gd gd1 (fun _ => ?_)
  refine ok_gd gd2 (fun _ => ?_)
  obtain ⟨jX, jO, jk, jM, jb, je1, je2, jR, jA⟩ := t_submit (O := O) cR (xs ((ix + (1 : Int32))).toNatClampNeg) (xs ((ix + (2 : Int32))).toNatClampNeg)
  refine ok_b2e je1 ?_
  refine ok_gd gd1 (fun _ => ?_)
  refine ok_gd gd2 (fun _ => ?_)
  refine ok_b1e je2 ?_
  refine ok_b0 ⟨_, rfl, rfl⟩ (fun v12 w1 => ?_)
  refine ok_ite (fun q2 => ?_) (fun q2 => ?_)
  · refine ok_ite (fun q3 => ?_) (fun q3 => ?_)
    · refine ok_ite (fun q4 => ?_) (fun q4 => ?_)
      · exact hrc _ _ _
      · exact absurd (by have hz := jA.2 q3; show lg_cmp (jO.2.1 56 0 0) _ = 0; rw [hz]; exact lg_self _) q4
    · exact hrc _ _ _
  · exact absurd (w1.symm.trans jA.1) q2
theorem pC15 {xs : Nat → Int32} {L : Nat} {ix : Int32} {O : SS} {rc : Int32 → SS → SS → SS → Option Unit} (hL : L ≤ 2048) (h0 : 0 ≤ ix) (h4 : ix.toInt + 4 ≤ L) (cR : REL S0 S0) (hrc : ∀ X M O, ok (rc (ix + (4 : Int32)) X M O) (fun _ => True)) : ok (f_law_C15 xs L ix S0 S0 O rc) (fun _ => True) := by
  unfold f_law_C15
  obtain ⟨jk, jM, jb, je1, je2, jR, jA⟩ := t_works cR 
  refine ok_b0e je1 ?_
  refine ok_b1e je2 ?_
  refine ok_ite (fun q1 => ?_) (fun q1 => ?_)
  · exact hrc _ _ _
  · exact absurd jA q1
theorem pC16 {xs : Nat → Int32} {L : Nat} {ix : Int32} {O : SS} {rc : Int32 → SS → SS → SS → Option Unit} (hL : L ≤ 2048) (h0 : 0 ≤ ix) (h4 : ix.toInt + 4 ≤ L) (cR : REL S0 S0) (hrc : ∀ X M O, ok (rc (ix + (4 : Int32)) X M O) (fun _ => True)) : ok (f_law_C16 xs L ix S0 S0 O rc) (fun _ => True) := by
  have gd1 : vp_in (ix + (1 : Int32)) L := lw_in hL h0 h4 (k := 1) (by decide)
  have gd2 : vp_in (ix + (2 : Int32)) L := lw_in hL h0 h4 (k := 2) (by decide)
  unfold f_law_C16
  refine ok_gd gd1 (fun _ => ?_)
  refine ok_gd gd2 (fun _ => ?_)
  obtain ⟨jO, jk, jM, jb, je1, je2, jR, jA⟩ := z_of (O := O) cR (xs ((ix + (1 : Int32))).toNatClampNeg) (((xs ((ix + (2 : Int32))).toNatClampNeg)).toUInt32 % 65536).toInt32
  refine ok_b1e je1 ?_
  refine ok_gd gd1 (fun _ => ?_)
  refine ok_gd gd2 (fun _ => ?_)
  refine ok_b1e je2 ?_
  refine ok_b0 ⟨_, rfl, rfl⟩ (fun v11 w1 => ?_)
  refine ok_ite (fun q2 => ?_) (fun q2 => ?_)
  · refine ok_ite (fun z => absurd z jA.2) (fun _ => ?_)
    exact hrc _ _ _
  · exact absurd (w1.symm.trans jA.1) q2
theorem pC17 {xs : Nat → Int32} {L : Nat} {ix : Int32} {O : SS} {rc : Int32 → SS → SS → SS → Option Unit} (hL : L ≤ 2048) (h0 : 0 ≤ ix) (h4 : ix.toInt + 4 ≤ L) (cR : REL S0 S0) (hrc : ∀ X M O, ok (rc (ix + (4 : Int32)) X M O) (fun _ => True)) : ok (f_law_C17 xs L ix S0 S0 O rc) (fun _ => True) := by
  have gd1 : vp_in (ix + (1 : Int32)) L := lw_in hL h0 h4 (k := 1) (by decide)
  unfold f_law_C17
  refine ok_gd gd1 (fun _ => ?_)
  obtain ⟨jO, jk, jM, jb, je1, je2, jR, jA⟩ := z_state (O := O) cR (xs ((ix + (1 : Int32))).toNatClampNeg)
  refine ok_b1e je1 ?_
  refine ok_gd gd1 (fun _ => ?_)
  refine ok_b1e je2 ?_
  refine ok_b0 ⟨_, rfl, rfl⟩ (fun v9 w1 => ?_)
  refine ok_ite (fun q2 => ?_) (fun q2 => ?_)
  · refine ok_ite (fun z => absurd z jA.2) (fun _ => ?_)
    exact hrc _ _ _
  · exact absurd (w1.symm.trans jA.1) q2
theorem pC18 {xs : Nat → Int32} {L : Nat} {ix : Int32} {O : SS} {rc : Int32 → SS → SS → SS → Option Unit} (hL : L ≤ 2048) (h0 : 0 ≤ ix) (h4 : ix.toInt + 4 ≤ L) (cR : REL S0 S0) (hrc : ∀ X M O, ok (rc (ix + (4 : Int32)) X M O) (fun _ => True)) : ok (f_law_C18 xs L ix S0 S0 O rc) (fun _ => True) := by
  have gd1 : vp_in (ix + (1 : Int32)) L := lw_in hL h0 h4 (k := 1) (by decide)
  unfold f_law_C18
  refine ok_gd gd1 (fun _ => ?_)
  obtain ⟨jO, jk, jM, jb, je1, je2, jR, jA⟩ := t_sum (O := O) cR (xs ((ix + (1 : Int32))).toNatClampNeg)
  refine ok_b1e je1 ?_
  refine ok_gd gd1 (fun _ => ?_)
  refine ok_b1e je2 ?_
  refine ok_b0 ⟨_, rfl, rfl⟩ (fun v9 w1 => ?_)
  refine ok_ite (fun q2 => ?_) (fun q2 => ?_)
  · refine ok_ite (fun q3 => ?_) (fun q3 => ?_)
    · refine ok_ite (fun q4 => ?_) (fun q4 => ?_)
      · exact hrc _ _ _
      · exact absurd (by have hz := jA.2 q3; show lg_cmp (jO.2.1 56 0 0) _ = 0; rw [hz]; exact lg_self _) q4
    · exact hrc _ _ _
  · exact absurd (w1.symm.trans jA.1) q2
theorem pC19 {xs : Nat → Int32} {L : Nat} {ix : Int32} {O : SS} {rc : Int32 → SS → SS → SS → Option Unit} (hL : L ≤ 2048) (h0 : 0 ≤ ix) (h4 : ix.toInt + 4 ≤ L) (cR : REL S0 S0) (hrc : ∀ X M O, ok (rc (ix + (4 : Int32)) X M O) (fun _ => True)) : ok (f_law_C19 xs L ix S0 S0 O rc) (fun _ => True) := by
  have gd1 : vp_in (ix + (1 : Int32)) L := lw_in hL h0 h4 (k := 1) (by decide)
  have gd2 : vp_in (ix + (2 : Int32)) L := lw_in hL h0 h4 (k := 2) (by decide)
  unfold f_law_C19
  refine ok_gd gd1 (fun _ => ?_)
  refine ok_gd gd2 (fun _ => ?_)
  obtain ⟨jX, jO, jk, jM, jb, je1, je2, jR, jA⟩ := z_steps (O := O) cR (xs ((ix + (1 : Int32))).toNatClampNeg) (xs ((ix + (2 : Int32))).toNatClampNeg)
  refine ok_b2e je1 ?_
  refine ok_gd gd1 (fun _ => ?_)
  refine ok_gd gd2 (fun _ => ?_)
  refine ok_b1e je2 ?_
  refine ok_b0 ⟨_, rfl, rfl⟩ (fun v12 w1 => ?_)
  refine ok_ite (fun q2 => ?_) (fun q2 => ?_)
  · refine ok_ite (fun z => absurd z jA.2) (fun _ => ?_)
    exact hrc _ _ _
  · exact absurd (w1.symm.trans jA.1) q2
theorem pC20 {xs : Nat → Int32} {L : Nat} {ix : Int32} {O : SS} {rc : Int32 → SS → SS → SS → Option Unit} (hL : L ≤ 2048) (h0 : 0 ≤ ix) (h4 : ix.toInt + 4 ≤ L) (cR : REL S0 S0) (hrc : ∀ X M O, ok (rc (ix + (4 : Int32)) X M O) (fun _ => True)) : ok (f_law_C20 xs L ix S0 S0 O rc) (fun _ => True) := by
  have gd1 : vp_in (ix + (1 : Int32)) L := lw_in hL h0 h4 (k := 1) (by decide)
  unfold f_law_C20
  refine ok_gd gd1 (fun _ => ?_)
  obtain ⟨jO, jk, jM, jb, je1, je2, jR, jA⟩ := z_hasBody (O := O) cR (xs ((ix + (1 : Int32))).toNatClampNeg)
  refine ok_b1e je1 ?_
  refine ok_gd gd1 (fun _ => ?_)
  refine ok_b1e je2 ?_
  refine ok_b0 ⟨_, rfl, rfl⟩ (fun v9 w1 => ?_)
  refine ok_ite (fun q2 => ?_) (fun q2 => ?_)
  · refine ok_ite (fun z => absurd z jA.2) (fun _ => ?_)
    exact hrc _ _ _
  · exact absurd (w1.symm.trans jA.1) q2
theorem pC21 {xs : Nat → Int32} {L : Nat} {ix : Int32} {O : SS} {rc : Int32 → SS → SS → SS → Option Unit} (hL : L ≤ 2048) (h0 : 0 ≤ ix) (h4 : ix.toInt + 4 ≤ L) (cR : REL S0 S0) (hrc : ∀ X M O, ok (rc (ix + (4 : Int32)) X M O) (fun _ => True)) : ok (f_law_C21 xs L ix S0 S0 O rc) (fun _ => True) := by
  have gd1 : vp_in (ix + (1 : Int32)) L := lw_in hL h0 h4 (k := 1) (by decide)
  have gd2 : vp_in (ix + (2 : Int32)) L := lw_in hL h0 h4 (k := 2) (by decide)
  unfold f_law_C21
  refine ok_gd gd1 (fun _ => ?_)
  refine ok_gd gd2 (fun _ => ?_)
  obtain ⟨jO, jk, jM, jb, je1, je2, jR, jA⟩ := z_letter (O := O) cR (xs ((ix + (1 : Int32))).toNatClampNeg) (xs ((ix + (2 : Int32))).toNatClampNeg)
  refine ok_b1e je1 ?_
  refine ok_gd gd1 (fun _ => ?_)
  refine ok_gd gd2 (fun _ => ?_)
  refine ok_b1e je2 ?_
  refine ok_b0 ⟨_, rfl, rfl⟩ (fun v11 w1 => ?_)
  refine ok_ite (fun q2 => ?_) (fun q2 => ?_)
  · refine ok_ite (fun z => absurd z jA.2) (fun _ => ?_)
    exact hrc _ _ _
  · exact absurd (w1.symm.trans jA.1) q2
theorem pC22 {xs : Nat → Int32} {L : Nat} {ix : Int32} {O : SS} {rc : Int32 → SS → SS → SS → Option Unit} (hL : L ≤ 2048) (h0 : 0 ≤ ix) (h4 : ix.toInt + 4 ≤ L) (cR : REL S0 S0) (hrc : ∀ X M O, ok (rc (ix + (4 : Int32)) X M O) (fun _ => True)) : ok (f_law_C22 xs L ix S0 S0 O rc) (fun _ => True) := by
  have gd1 : vp_in (ix + (1 : Int32)) L := lw_in hL h0 h4 (k := 1) (by decide)
  unfold f_law_C22
  refine ok_gd gd1 (fun _ => ?_)
  obtain ⟨jX, jO, jk, jM, jb, je1, je2, jR, jA⟩ := z_drop (O := O) cR (xs ((ix + (1 : Int32))).toNatClampNeg)
  refine ok_b2e je1 ?_
  refine ok_gd gd1 (fun _ => ?_)
  refine ok_b1e je2 ?_
  refine ok_b0 ⟨_, rfl, rfl⟩ (fun v10 w1 => ?_)
  refine ok_ite (fun q2 => ?_) (fun q2 => ?_)
  · refine ok_ite (fun z => absurd z jA.2) (fun _ => ?_)
    exact hrc _ _ _
  · exact absurd (w1.symm.trans jA.1) q2
theorem pC23 {xs : Nat → Int32} {L : Nat} {ix : Int32} {O : SS} {rc : Int32 → SS → SS → SS → Option Unit} (hL : L ≤ 2048) (h0 : 0 ≤ ix) (h4 : ix.toInt + 4 ≤ L) (cR : REL S0 S0) (hrc : ∀ X M O, ok (rc (ix + (4 : Int32)) X M O) (fun _ => True)) : ok (f_law_C23 xs L ix S0 S0 O rc) (fun _ => True) := by
  have gd1 : vp_in (ix + (1 : Int32)) L := lw_in hL h0 h4 (k := 1) (by decide)
  unfold f_law_C23
  refine ok_gd gd1 (fun _ => ?_)
  obtain ⟨jX, jO, jk, jM, jb, je1, je2, jR, jA⟩ := z_capacity (O := O) cR (xs ((ix + (1 : Int32))).toNatClampNeg)
  refine ok_b2e je1 ?_
  refine ok_gd gd1 (fun _ => ?_)
  refine ok_b1e je2 ?_
  refine ok_b0 ⟨_, rfl, rfl⟩ (fun v10 w1 => ?_)
  refine ok_ite (fun q2 => ?_) (fun q2 => ?_)
  · refine ok_ite (fun q3 => ?_) (fun q3 => ?_)
    · refine ok_ite (fun q4 => ?_) (fun q4 => ?_)
      · exact hrc _ _ _
      · exact absurd (by have hz := jA.2 q3; show lg_cmp (jO.2.1 56 0 0) _ = 0; rw [hz]; exact lg_self _) q4
    · exact hrc _ _ _
  · exact absurd (w1.symm.trans jA.1) q2
theorem pC24 {xs : Nat → Int32} {L : Nat} {ix : Int32} {O : SS} {rc : Int32 → SS → SS → SS → Option Unit} (hL : L ≤ 2048) (h0 : 0 ≤ ix) (h4 : ix.toInt + 4 ≤ L) (cR : REL S0 S0) (hrc : ∀ X M O, ok (rc (ix + (4 : Int32)) X M O) (fun _ => True)) : ok (f_law_C24 xs L ix S0 S0 O rc) (fun _ => True) := by
  unfold f_law_C24
  obtain ⟨jk, jM, jb, je1, je2, jR, jA⟩ := z_bodies cR 
  refine ok_b0e je1 ?_
  refine ok_b1e je2 ?_
  refine ok_ite (fun q1 => ?_) (fun q1 => ?_)
  · exact hrc _ _ _
  · exact absurd jA q1
theorem pC25 {xs : Nat → Int32} {L : Nat} {ix : Int32} {O : SS} {rc : Int32 → SS → SS → SS → Option Unit} (hL : L ≤ 2048) (h0 : 0 ≤ ix) (h4 : ix.toInt + 4 ≤ L) (cR : REL S0 S0) (hrc : ∀ X M O, ok (rc (ix + (4 : Int32)) X M O) (fun _ => True)) : ok (f_law_C25 xs L ix S0 S0 O rc) (fun _ => True) := by
  have gd1 : vp_in (ix + (1 : Int32)) L := lw_in hL h0 h4 (k := 1) (by decide)
  have gd2 : vp_in (ix + (2 : Int32)) L := lw_in hL h0 h4 (k := 2) (by decide)
  unfold f_law_C25
  refine ok_gd gd1 (fun _ => ?_)
  refine ok_gd gd2 (fun _ => ?_)
  obtain ⟨jX, jO, jk, jM, jb, je1, je2, jR, jA⟩ := z_read (O := O) cR (xs ((ix + (1 : Int32))).toNatClampNeg) (xs ((ix + (2 : Int32))).toNatClampNeg)
  refine ok_b2e je1 ?_
  refine ok_gd gd1 (fun _ => ?_)
  refine ok_gd gd2 (fun _ => ?_)
  refine ok_b1e je2 ?_
  refine ok_b0 ⟨_, rfl, rfl⟩ (fun v12 w1 => ?_)
  refine ok_ite (fun q2 => ?_) (fun q2 => ?_)
  · refine ok_ite (fun z => absurd z jA.2) (fun _ => ?_)
    exact hrc _ _ _
  · exact absurd (w1.symm.trans jA.1) q2
theorem pC26 {xs : Nat → Int32} {L : Nat} {ix : Int32} {O : SS} {rc : Int32 → SS → SS → SS → Option Unit} (hL : L ≤ 2048) (h0 : 0 ≤ ix) (h4 : ix.toInt + 4 ≤ L) (cR : REL S0 S0) (hrc : ∀ X M O, ok (rc (ix + (4 : Int32)) X M O) (fun _ => True)) : ok (f_law_C26 xs L ix S0 S0 O rc) (fun _ => True) := by
  have gd1 : vp_in (ix + (1 : Int32)) L := lw_in hL h0 h4 (k := 1) (by decide)
  have gd2 : vp_in (ix + (2 : Int32)) L := lw_in hL h0 h4 (k := 2) (by decide)
  unfold f_law_C26
  refine ok_gd gd1 (fun _ => ?_)
  refine ok_gd gd2 (fun _ => ?_)
  obtain ⟨jO, jk, jM, jb, je1, je2, jR, jA⟩ := z_copy (O := O) cR (xs ((ix + (1 : Int32))).toNatClampNeg) (xs ((ix + (2 : Int32))).toNatClampNeg)
  refine ok_b1e je1 ?_
  refine ok_gd gd1 (fun _ => ?_)
  refine ok_gd gd2 (fun _ => ?_)
  refine ok_b1e je2 ?_
  refine ok_b0 ⟨_, rfl, rfl⟩ (fun v11 w1 => ?_)
  refine ok_ite (fun q2 => ?_) (fun q2 => ?_)
  · refine ok_ite (fun z => absurd z jA.2) (fun _ => ?_)
    exact hrc _ _ _
  · exact absurd (w1.symm.trans jA.1) q2
theorem pC27 {xs : Nat → Int32} {L : Nat} {ix : Int32} {O : SS} {rc : Int32 → SS → SS → SS → Option Unit} (hL : L ≤ 2048) (h0 : 0 ≤ ix) (h4 : ix.toInt + 4 ≤ L) (cR : REL S0 S0) (hrc : ∀ X M O, ok (rc (ix + (4 : Int32)) X M O) (fun _ => True)) : ok (f_law_C27 xs L ix S0 S0 O rc) (fun _ => True) := by
  have gd1 : vp_in (ix + (1 : Int32)) L := lw_in hL h0 h4 (k := 1) (by decide)
  have gd2 : vp_in (ix + (2 : Int32)) L := lw_in hL h0 h4 (k := 2) (by decide)
  have gd3 : vp_in (ix + (3 : Int32)) L := lw_in hL h0 h4 (k := 3) (by decide)
  unfold f_law_C27
  refine ok_gd gd1 (fun _ => ?_)
  refine ok_gd gd2 (fun _ => ?_)
  refine ok_gd gd3 (fun _ => ?_)
  obtain ⟨jX, jO, jk, jM, jb, je1, je2, jR, jA⟩ := z_vote (O := O) cR (xs ((ix + (1 : Int32))).toNatClampNeg) (xs ((ix + (2 : Int32))).toNatClampNeg) (xs ((ix + (3 : Int32))).toNatClampNeg)
  refine ok_b2e je1 ?_
  refine ok_gd gd1 (fun _ => ?_)
  refine ok_gd gd2 (fun _ => ?_)
  refine ok_gd gd3 (fun _ => ?_)
  refine ok_b1e je2 ?_
  refine ok_b0 ⟨_, rfl, rfl⟩ (fun v14 w1 => ?_)
  refine ok_ite (fun q2 => ?_) (fun q2 => ?_)
  · refine ok_ite (fun z => absurd z jA.2) (fun _ => ?_)
    exact hrc _ _ _
  · exact absurd (w1.symm.trans jA.1) q2
theorem pC28 {xs : Nat → Int32} {L : Nat} {ix : Int32} {O : SS} {rc : Int32 → SS → SS → SS → Option Unit} (hL : L ≤ 2048) (h0 : 0 ≤ ix) (h4 : ix.toInt + 4 ≤ L) (cR : REL S0 S0) (hrc : ∀ X M O, ok (rc (ix + (4 : Int32)) X M O) (fun _ => True)) : ok (f_law_C28 xs L ix S0 S0 O rc) (fun _ => True) := by
  have gd1 : vp_in (ix + (1 : Int32)) L := lw_in hL h0 h4 (k := 1) (by decide)
  have gd2 : vp_in (ix + (2 : Int32)) L := lw_in hL h0 h4 (k := 2) (by decide)
  unfold f_law_C28
  refine ok_gd gd1 (fun _ => ?_)
  refine ok_gd gd2 (fun _ => ?_)
  refine ok_ite (fun q1 => ?_) (fun q1 => ?_)
  · obtain ⟨jO, jk, jM, jb, je1, je2, jR, jA⟩ := z_style (O := O) cR (xs ((ix + (1 : Int32))).toNatClampNeg) (0 : Int32)
    refine ok_b1e je1 ?_
    refine ok_gd gd1 (fun _ => ?_)
    refine ok_gd gd2 (fun _ => ?_)
    refine ok_ite (fun z => ?_) (fun z => ?_)
    · refine ok_b1e je2 ?_
      refine ok_b0 ⟨_, rfl, rfl⟩ (fun v13 w2 => ?_)
      refine ok_ite (fun q3 => ?_) (fun q3 => ?_)
      · refine ok_ite (fun z => absurd z jA.2) (fun _ => ?_)
        exact hrc _ _ _
      · exact absurd (w2.symm.trans jA.1) q3
    · exact absurd q1 z
  · obtain ⟨jO, jk, jM, jb, je1, je2, jR, jA⟩ := z_style (O := O) cR (xs ((ix + (1 : Int32))).toNatClampNeg) (1 : Int32)
    refine ok_b1e je1 ?_
    refine ok_gd gd1 (fun _ => ?_)
    refine ok_gd gd2 (fun _ => ?_)
    refine ok_ite (fun z => ?_) (fun z => ?_)
    · exact absurd z q1
    · refine ok_b1e je2 ?_
      refine ok_b0 ⟨_, rfl, rfl⟩ (fun v43 w4 => ?_)
      refine ok_ite (fun q5 => ?_) (fun q5 => ?_)
      · refine ok_ite (fun z => absurd z jA.2) (fun _ => ?_)
        exact hrc _ _ _
      · exact absurd (w4.symm.trans jA.1) q5
theorem pC29 {xs : Nat → Int32} {L : Nat} {ix : Int32} {O : SS} {rc : Int32 → SS → SS → SS → Option Unit} (hL : L ≤ 2048) (h0 : 0 ≤ ix) (h4 : ix.toInt + 4 ≤ L) (cR : REL S0 S0) (hrc : ∀ X M O, ok (rc (ix + (4 : Int32)) X M O) (fun _ => True)) : ok (f_law_C29 xs L ix S0 S0 O rc) (fun _ => True) := by
  have gd1 : vp_in (ix + (1 : Int32)) L := lw_in hL h0 h4 (k := 1) (by decide)
  unfold f_law_C29
  refine ok_gd gd1 (fun _ => ?_)
  obtain ⟨jO, jk, jM, jb, je1, je2, jR, jA⟩ := z_review (O := O) cR (xs ((ix + (1 : Int32))).toNatClampNeg)
  refine ok_b1e je1 ?_
  refine ok_gd gd1 (fun _ => ?_)
  refine ok_b1e je2 ?_
  refine ok_b0 ⟨_, rfl, rfl⟩ (fun v9 w1 => ?_)
  refine ok_ite (fun q2 => ?_) (fun q2 => ?_)
  · refine ok_ite (fun z => absurd z jA.2) (fun _ => ?_)
    exact hrc _ _ _
  · exact absurd (w1.symm.trans jA.1) q2
theorem pC30 {xs : Nat → Int32} {L : Nat} {ix : Int32} {O : SS} {rc : Int32 → SS → SS → SS → Option Unit} (hL : L ≤ 2048) (h0 : 0 ≤ ix) (h4 : ix.toInt + 4 ≤ L) (cR : REL S0 S0) (hrc : ∀ X M O, ok (rc (ix + (4 : Int32)) X M O) (fun _ => True)) : ok (f_law_C30 xs L ix S0 S0 O rc) (fun _ => True) := by
  have gd1 : vp_in (ix + (1 : Int32)) L := lw_in hL h0 h4 (k := 1) (by decide)
  have gd2 : vp_in (ix + (2 : Int32)) L := lw_in hL h0 h4 (k := 2) (by decide)
  unfold f_law_C30
  refine ok_gd gd1 (fun _ => ?_)
  refine ok_gd gd2 (fun _ => ?_)
  obtain ⟨jX, jO, jk, jM, jb, je1, je2, jR, jA⟩ := z_best (O := O) cR (xs ((ix + (1 : Int32))).toNatClampNeg) (xs ((ix + (2 : Int32))).toNatClampNeg)
  refine ok_b2e je1 ?_
  refine ok_gd gd1 (fun _ => ?_)
  refine ok_gd gd2 (fun _ => ?_)
  refine ok_b1e je2 ?_
  refine ok_b0 ⟨_, rfl, rfl⟩ (fun v12 w1 => ?_)
  refine ok_ite (fun q2 => ?_) (fun q2 => ?_)
  · refine ok_ite (fun z => absurd z jA.2) (fun _ => ?_)
    exact hrc _ _ _
  · exact absurd (w1.symm.trans jA.1) q2
theorem pC31 {xs : Nat → Int32} {L : Nat} {ix : Int32} {O : SS} {rc : Int32 → SS → SS → SS → Option Unit} (hL : L ≤ 2048) (h0 : 0 ≤ ix) (h4 : ix.toInt + 4 ≤ L) (cR : REL S0 S0) (hrc : ∀ X M O, ok (rc (ix + (4 : Int32)) X M O) (fun _ => True)) : ok (f_law_C31 xs L ix S0 S0 O rc) (fun _ => True) := by
  have gd1 : vp_in (ix + (1 : Int32)) L := lw_in hL h0 h4 (k := 1) (by decide)
  unfold f_law_C31
  refine ok_gd gd1 (fun _ => ?_)
  obtain ⟨jX, jO, jk, jM, jb, je1, je2, jR, jA⟩ := z_points (O := O) cR (xs ((ix + (1 : Int32))).toNatClampNeg)
  refine ok_b2e je1 ?_
  refine ok_gd gd1 (fun _ => ?_)
  refine ok_b1e je2 ?_
  refine ok_b0 ⟨_, rfl, rfl⟩ (fun v10 w1 => ?_)
  refine ok_ite (fun q2 => ?_) (fun q2 => ?_)
  · refine ok_ite (fun z => absurd z jA.2) (fun _ => ?_)
    exact hrc _ _ _
  · exact absurd (w1.symm.trans jA.1) q2
theorem pC32 {xs : Nat → Int32} {L : Nat} {ix : Int32} {O : SS} {rc : Int32 → SS → SS → SS → Option Unit} (hL : L ≤ 2048) (h0 : 0 ≤ ix) (h4 : ix.toInt + 4 ≤ L) (cR : REL S0 S0) (hrc : ∀ X M O, ok (rc (ix + (4 : Int32)) X M O) (fun _ => True)) : ok (f_law_C32 xs L ix S0 S0 O rc) (fun _ => True) := by
  have gd1 : vp_in (ix + (1 : Int32)) L := lw_in hL h0 h4 (k := 1) (by decide)
  unfold f_law_C32
  refine ok_gd gd1 (fun _ => ?_)
  obtain ⟨jX, jO, jk, jM, jb, je1, je2, jR, jA⟩ := z_belt (O := O) cR (xs ((ix + (1 : Int32))).toNatClampNeg)
  refine ok_b2e je1 ?_
  refine ok_gd gd1 (fun _ => ?_)
  refine ok_b1e je2 ?_
  refine ok_b0 ⟨_, rfl, rfl⟩ (fun v10 w1 => ?_)
  refine ok_ite (fun q2 => ?_) (fun q2 => ?_)
  · refine ok_ite (fun z => absurd z jA.2) (fun _ => ?_)
    exact hrc _ _ _
  · exact absurd (w1.symm.trans jA.1) q2
theorem pC33 {xs : Nat → Int32} {L : Nat} {ix : Int32} {O : SS} {rc : Int32 → SS → SS → SS → Option Unit} (hL : L ≤ 2048) (h0 : 0 ≤ ix) (h4 : ix.toInt + 4 ≤ L) (cR : REL S0 S0) (hrc : ∀ X M O, ok (rc (ix + (4 : Int32)) X M O) (fun _ => True)) : ok (f_law_C33 xs L ix S0 S0 O rc) (fun _ => True) := by
  have gd1 : vp_in (ix + (1 : Int32)) L := lw_in hL h0 h4 (k := 1) (by decide)
  unfold f_law_C33
  refine ok_gd gd1 (fun _ => ?_)
  obtain ⟨jO, jk, jM, jb, je1, je2, jR, jA⟩ := z_honour (O := O) cR (xs ((ix + (1 : Int32))).toNatClampNeg)
  refine ok_b1e je1 ?_
  refine ok_gd gd1 (fun _ => ?_)
  refine ok_b1e je2 ?_
  refine ok_b0 ⟨_, rfl, rfl⟩ (fun v9 w1 => ?_)
  refine ok_ite (fun q2 => ?_) (fun q2 => ?_)
  · refine ok_ite (fun z => absurd z jA.2) (fun _ => ?_)
    exact hrc _ _ _
  · exact absurd (w1.symm.trans jA.1) q2
theorem pC34 {xs : Nat → Int32} {L : Nat} {ix : Int32} {O : SS} {rc : Int32 → SS → SS → SS → Option Unit} (hL : L ≤ 2048) (h0 : 0 ≤ ix) (h4 : ix.toInt + 4 ≤ L) (cR : REL S0 S0) (hrc : ∀ X M O, ok (rc (ix + (4 : Int32)) X M O) (fun _ => True)) : ok (f_law_C34 xs L ix S0 S0 O rc) (fun _ => True) := by
  have gd1 : vp_in (ix + (1 : Int32)) L := lw_in hL h0 h4 (k := 1) (by decide)
  unfold f_law_C34
  refine ok_gd gd1 (fun _ => ?_)
  obtain ⟨jX, jO, jk, jM, jb, je1, je2, jR, jA⟩ := z_ranked (O := O) cR (xs ((ix + (1 : Int32))).toNatClampNeg)
  refine ok_b2e je1 ?_
  refine ok_gd gd1 (fun _ => ?_)
  refine ok_b1e je2 ?_
  refine ok_b0 ⟨_, rfl, rfl⟩ (fun v10 w1 => ?_)
  refine ok_ite (fun q2 => ?_) (fun q2 => ?_)
  · refine ok_ite (fun z => absurd z jA.2) (fun _ => ?_)
    exact hrc _ _ _
  · exact absurd (w1.symm.trans jA.1) q2
theorem pC35 {xs : Nat → Int32} {L : Nat} {ix : Int32} {O : SS} {rc : Int32 → SS → SS → SS → Option Unit} (hL : L ≤ 2048) (h0 : 0 ≤ ix) (h4 : ix.toInt + 4 ≤ L) (cR : REL S0 S0) (hrc : ∀ X M O, ok (rc (ix + (4 : Int32)) X M O) (fun _ => True)) : ok (f_law_C35 xs L ix S0 S0 O rc) (fun _ => True) := by
  have gd1 : vp_in (ix + (1 : Int32)) L := lw_in hL h0 h4 (k := 1) (by decide)
  have gd2 : vp_in (ix + (2 : Int32)) L := lw_in hL h0 h4 (k := 2) (by decide)
  unfold f_law_C35
  refine ok_gd gd1 (fun _ => ?_)
  refine ok_gd gd2 (fun _ => ?_)
  obtain ⟨jX, jO, jk, jM, jb, je1, je2, jR, jA⟩ := z_challenge (O := O) cR (xs ((ix + (1 : Int32))).toNatClampNeg) (xs ((ix + (2 : Int32))).toNatClampNeg)
  refine ok_b2e je1 ?_
  refine ok_gd gd1 (fun _ => ?_)
  refine ok_gd gd2 (fun _ => ?_)
  refine ok_b1e je2 ?_
  refine ok_b0 ⟨_, rfl, rfl⟩ (fun v12 w1 => ?_)
  refine ok_ite (fun q2 => ?_) (fun q2 => ?_)
  · refine ok_ite (fun z => absurd z jA.2) (fun _ => ?_)
    exact hrc _ _ _
  · exact absurd (w1.symm.trans jA.1) q2
theorem pC36 {xs : Nat → Int32} {L : Nat} {ix : Int32} {O : SS} {rc : Int32 → SS → SS → SS → Option Unit} (hL : L ≤ 2048) (h0 : 0 ≤ ix) (h4 : ix.toInt + 4 ≤ L) (cR : REL S0 S0) (hrc : ∀ X M O, ok (rc (ix + (4 : Int32)) X M O) (fun _ => True)) : ok (f_law_C36 xs L ix S0 S0 O rc) (fun _ => True) := by
  have gd1 : vp_in (ix + (1 : Int32)) L := lw_in hL h0 h4 (k := 1) (by decide)
  have gd2 : vp_in (ix + (2 : Int32)) L := lw_in hL h0 h4 (k := 2) (by decide)
  unfold f_law_C36
  refine ok_gd gd1 (fun _ => ?_)
  refine ok_gd gd2 (fun _ => ?_)
  obtain ⟨jX, jO, jk, jM, jb, je1, je2, jR, jA⟩ := z_give (O := O) cR (xs ((ix + (1 : Int32))).toNatClampNeg) (xs ((ix + (2 : Int32))).toNatClampNeg)
  refine ok_b2e je1 ?_
  refine ok_gd gd1 (fun _ => ?_)
  refine ok_gd gd2 (fun _ => ?_)
  refine ok_b1e je2 ?_
  refine ok_b0 ⟨_, rfl, rfl⟩ (fun v12 w1 => ?_)
  refine ok_ite (fun q2 => ?_) (fun q2 => ?_)
  · refine ok_ite (fun z => absurd z jA.2) (fun _ => ?_)
    exact hrc _ _ _
  · exact absurd (w1.symm.trans jA.1) q2
theorem pC37 {xs : Nat → Int32} {L : Nat} {ix : Int32} {O : SS} {rc : Int32 → SS → SS → SS → Option Unit} (hL : L ≤ 2048) (h0 : 0 ≤ ix) (h4 : ix.toInt + 4 ≤ L) (cR : REL S0 S0) (hrc : ∀ X M O, ok (rc (ix + (4 : Int32)) X M O) (fun _ => True)) : ok (f_law_C37 xs L ix S0 S0 O rc) (fun _ => True) := by
  have gd1 : vp_in (ix + (1 : Int32)) L := lw_in hL h0 h4 (k := 1) (by decide)
  have gd2 : vp_in (ix + (2 : Int32)) L := lw_in hL h0 h4 (k := 2) (by decide)
  unfold f_law_C37
  refine ok_gd gd1 (fun _ => ?_)
  refine ok_gd gd2 (fun _ => ?_)
  obtain ⟨jX, jO, jk, jM, jb, je1, je2, jR, jA⟩ := z_answer (O := O) cR (xs ((ix + (1 : Int32))).toNatClampNeg) (xs ((ix + (2 : Int32))).toNatClampNeg)
  refine ok_b2e je1 ?_
  refine ok_gd gd1 (fun _ => ?_)
  refine ok_gd gd2 (fun _ => ?_)
  refine ok_b1e je2 ?_
  refine ok_b0 ⟨_, rfl, rfl⟩ (fun v12 w1 => ?_)
  refine ok_ite (fun q2 => ?_) (fun q2 => ?_)
  · refine ok_ite (fun z => absurd z jA.2) (fun _ => ?_)
    exact hrc _ _ _
  · exact absurd (w1.symm.trans jA.1) q2
theorem pC38 {xs : Nat → Int32} {L : Nat} {ix : Int32} {O : SS} {rc : Int32 → SS → SS → SS → Option Unit} (hL : L ≤ 2048) (h0 : 0 ≤ ix) (h4 : ix.toInt + 4 ≤ L) (cR : REL S0 S0) (hrc : ∀ X M O, ok (rc (ix + (4 : Int32)) X M O) (fun _ => True)) : ok (f_law_C38 xs L ix S0 S0 O rc) (fun _ => True) := by
  have gd1 : vp_in (ix + (1 : Int32)) L := lw_in hL h0 h4 (k := 1) (by decide)
  unfold f_law_C38
  refine ok_gd gd1 (fun _ => ?_)
  obtain ⟨jO, jk, jM, jb, je1, je2, jR, jA⟩ := z_open (O := O) cR (xs ((ix + (1 : Int32))).toNatClampNeg)
  refine ok_b1e je1 ?_
  refine ok_gd gd1 (fun _ => ?_)
  refine ok_b1e je2 ?_
  refine ok_b0 ⟨_, rfl, rfl⟩ (fun v9 w1 => ?_)
  refine ok_ite (fun q2 => ?_) (fun q2 => ?_)
  · refine ok_ite (fun z => absurd z jA.2) (fun _ => ?_)
    exact hrc _ _ _
  · exact absurd (w1.symm.trans jA.1) q2
theorem pC39 {xs : Nat → Int32} {L : Nat} {ix : Int32} {O : SS} {rc : Int32 → SS → SS → SS → Option Unit} (hL : L ≤ 2048) (h0 : 0 ≤ ix) (h4 : ix.toInt + 4 ≤ L) (cR : REL S0 S0) (hrc : ∀ X M O, ok (rc (ix + (4 : Int32)) X M O) (fun _ => True)) : ok (f_law_C39 xs L ix S0 S0 O rc) (fun _ => True) := by
  have gd1 : vp_in (ix + (1 : Int32)) L := lw_in hL h0 h4 (k := 1) (by decide)
  unfold f_law_C39
  refine ok_gd gd1 (fun _ => ?_)
  obtain ⟨jO, jk, jM, jb, je1, je2, jR, jA⟩ := z_left (O := O) cR (xs ((ix + (1 : Int32))).toNatClampNeg)
  refine ok_b1e je1 ?_
  refine ok_gd gd1 (fun _ => ?_)
  refine ok_b1e je2 ?_
  refine ok_b0 ⟨_, rfl, rfl⟩ (fun v9 w1 => ?_)
  refine ok_ite (fun q2 => ?_) (fun q2 => ?_)
  · refine ok_ite (fun z => absurd z jA.2) (fun _ => ?_)
    exact hrc _ _ _
  · exact absurd (w1.symm.trans jA.1) q2
theorem pC40 {xs : Nat → Int32} {L : Nat} {ix : Int32} {O : SS} {rc : Int32 → SS → SS → SS → Option Unit} (hL : L ≤ 2048) (h0 : 0 ≤ ix) (h4 : ix.toInt + 4 ≤ L) (cR : REL S0 S0) (hrc : ∀ X M O, ok (rc (ix + (4 : Int32)) X M O) (fun _ => True)) : ok (f_law_C40 xs L ix S0 S0 O rc) (fun _ => True) := by
  have gd1 : vp_in (ix + (1 : Int32)) L := lw_in hL h0 h4 (k := 1) (by decide)
  unfold f_law_C40
  refine ok_gd gd1 (fun _ => ?_)
  obtain ⟨jX, jO, jk, jM, jb, je1, je2, jR, jA⟩ := z_days (O := O) cR (xs ((ix + (1 : Int32))).toNatClampNeg)
  refine ok_b2e je1 ?_
  refine ok_gd gd1 (fun _ => ?_)
  refine ok_b1e je2 ?_
  refine ok_b0 ⟨_, rfl, rfl⟩ (fun v10 w1 => ?_)
  refine ok_ite (fun q2 => ?_) (fun q2 => ?_)
  · refine ok_ite (fun q3 => ?_) (fun q3 => ?_)
    · refine ok_ite (fun q4 => ?_) (fun q4 => ?_)
      · exact hrc _ _ _
      · exact absurd (by have hz := jA.2 q3; show lg_cmp (jO.2.1 56 0 0) _ = 0; rw [hz]; exact lg_self _) q4
    · exact hrc _ _ _
  · exact absurd (w1.symm.trans jA.1) q2
theorem pC41 {xs : Nat → Int32} {L : Nat} {ix : Int32} {O : SS} {rc : Int32 → SS → SS → SS → Option Unit} (hL : L ≤ 2048) (h0 : 0 ≤ ix) (h4 : ix.toInt + 4 ≤ L) (cR : REL S0 S0) (hrc : ∀ X M O, ok (rc (ix + (4 : Int32)) X M O) (fun _ => True)) : ok (f_law_C41 xs L ix S0 S0 O rc) (fun _ => True) := by
  unfold f_law_C41
  obtain ⟨jk, jM, jb, je1, je2, jR, jA⟩ := z_checksum cR 
  refine ok_b0e je1 ?_
  refine ok_b1e je2 ?_
  refine ok_ite (fun q1 => ?_) (fun q1 => ?_)
  · exact hrc _ _ _
  · exact absurd (by rw [jA]; exact lg_self _) q1
theorem pC42 {xs : Nat → Int32} {L : Nat} {ix : Int32} {O : SS} {rc : Int32 → SS → SS → SS → Option Unit} (hL : L ≤ 2048) (h0 : 0 ≤ ix) (h4 : ix.toInt + 4 ≤ L) (cR : REL S0 S0) (hrc : ∀ X M O, ok (rc (ix + (4 : Int32)) X M O) (fun _ => True)) : ok (f_law_C42 xs L ix S0 S0 O rc) (fun _ => True) := by
  unfold f_law_C42
  obtain ⟨jO, jk, jM, jb, je1, je2, jR, jA⟩ := z_standingShare (O := O) cR 
  refine ok_b1e je1 ?_
  refine ok_b1e je2 ?_
  refine ok_b0 ⟨_, rfl, rfl⟩ (fun v7 w1 => ?_)
  refine ok_ite (fun q2 => ?_) (fun q2 => ?_)
  · refine ok_ite (fun z => absurd z jA.2) (fun _ => ?_)
    exact hrc _ _ _
  · exact absurd (w1.symm.trans jA.1) q2
theorem pC43 {xs : Nat → Int32} {L : Nat} {ix : Int32} {O : SS} {rc : Int32 → SS → SS → SS → Option Unit} (hL : L ≤ 2048) (h0 : 0 ≤ ix) (h4 : ix.toInt + 4 ≤ L) (cR : REL S0 S0) (hrc : ∀ X M O, ok (rc (ix + (4 : Int32)) X M O) (fun _ => True)) : ok (f_law_C43 xs L ix S0 S0 O rc) (fun _ => True) := by
  have gd1 : vp_in (ix + (1 : Int32)) L := lw_in hL h0 h4 (k := 1) (by decide)
  unfold f_law_C43
  refine ok_gd gd1 (fun _ => ?_)
  obtain ⟨jX, jO, jk, jM, jb, je1, je2, jR, jA⟩ := z_meanSteps (O := O) cR (xs ((ix + (1 : Int32))).toNatClampNeg)
  refine ok_b2e je1 ?_
  refine ok_gd gd1 (fun _ => ?_)
  refine ok_b1e je2 ?_
  refine ok_b0 ⟨_, rfl, rfl⟩ (fun v10 w1 => ?_)
  refine ok_ite (fun q2 => ?_) (fun q2 => ?_)
  · refine ok_ite (fun z => absurd z jA.2) (fun _ => ?_)
    exact hrc _ _ _
  · exact absurd (w1.symm.trans jA.1) q2
theorem pC44 {xs : Nat → Int32} {L : Nat} {ix : Int32} {O : SS} {rc : Int32 → SS → SS → SS → Option Unit} (hL : L ≤ 2048) (h0 : 0 ≤ ix) (h4 : ix.toInt + 4 ≤ L) (cR : REL S0 S0) (hrc : ∀ X M O, ok (rc (ix + (4 : Int32)) X M O) (fun _ => True)) : ok (f_law_C44 xs L ix S0 S0 O rc) (fun _ => True) := by
  unfold f_law_C44
  obtain ⟨jX, jk, jM, jb, je1, je2, jR, jA⟩ := z_isSound cR 
  refine ok_b1e je1 ?_
  refine ok_b1e je2 ?_
  refine ok_ite (fun q1 => ?_) (fun q1 => ?_)
  · exact hrc _ _ _
  · exact absurd jA q1