theorem s_X7_runs_J121 {A : Nat → Nat → Nat → Prop} {B : SS} {n : Nat} (rc : Int32 → Int32 → SS → (SS → Option (SS × Int32)) → Option (SS × Int32)) (hrc : ∀ (v6 : Int32) (v7 : Int32) (M8 : SS) (k4 : (SS → Option (SS × Int32))), (FU ((M8.1 26 0 40)) 300 n) → ((0 : Int32) ≤ v6 ∧ v6 ≤ (24 : Int32)) → ((0 : Int32) ≤ v7 ∧ v7 ≤ (4 : Int32)) → (IV A B M8) → (v7 ≤ (M8.1 34 0 (p1).toNatClampNeg)) → (∀ (k_0 : SS), (IV A B k_0) → ok (k4 k_0) (fun r => IV A B r.1 ∧ (101 : Int32) ≤ r.2 ∧ r.2 ≤ (122 : Int32))) → ok (rc v6 v7 M8 k4) (fun r => IV A B r.1 ∧ (101 : Int32) ≤ r.2 ∧ r.2 ≤ (122 : Int32))) (k4 : SS → Option (SS × Int32)) (hk : ∀ (k_0 : SS), (IV A B k_0) → ok (k4 k_0) (fun r => IV A B r.1 ∧ (101 : Int32) ≤ r.2 ∧ r.2 ≤ (122 : Int32))) (v26 : Int32) (iv26 : (0 : Int32) ≤ v26 ∧ v26 ≤ (65535 : Int32)) (M8 : SS) (hM8 : IV A B M8) (v27 : Int32) (iv27 : (0 : Int32) ≤ v27 ∧ v27 ≤ (1 : Int32)) (p0 : Int32) (ip0 : (0 : Int32) ≤ p0 ∧ p0 ≤ (40 : Int32)) (v6 : Int32) (iv6 : (0 : Int32) ≤ v6 ∧ v6 ≤ (23 : Int32)) (v7 : Int32) (iv7 : (0 : Int32) ≤ v7 ∧ v7 ≤ (4 : Int32)) (p1 : Int32) (ip1 : (0 : Int32) ≤ p1 ∧ p1 ≤ (39 : Int32)) (x0 : isL v26) (x1 : (v27 = 0 ∧ ¬ v26 = 110 ∧ ¬ v26 = 105 ∧ ¬ v26 = 100) ∨ (v27 = 1 ∧ (v26 = 110 ∨ v26 = 105 ∨ v26 = 100))) (x2 : v7 ≤ (M8.1 34 0 (p1).toNatClampNeg)) (x3 : (M8.1 26 0 40) < (300 : Int32)) (x4 : (v26 = 43 ∨ v26 = 45 ∨ v26 = 42 ∨ v26 = 37 ∨ v26 = 115) → (2 : Int32) ≤ (M8.1 26 0 38)) (x5 : ¬ v26 = 110 → ¬ v26 = 105 → (1 : Int32) ≤ (M8.1 26 0 38)) (x6 : v26 = 105 → v7 < (M8.1 34 0 (p1).toNatClampNeg)) (a1 : A 26 0 38) (a2 : A 26 0 39) (a3 : A 26 0 40) (a4 : ∀ p, A 53 0 p) (a5 : ∀ p, A 54 0 p) (hF : FU ((M8.1 26 0 40)) 300 (n + 1)) : ok (f_X7_runs_J121 rc k4 v26 M8 v27 p0 v6 v7 p1) (fun r => IV A B r.1 ∧ (101 : Int32) ≤ r.2 ∧ r.2 ≤ (122 : Int32)) := by
  unfold f_X7_runs_J121
  refine ok_ite (fun q1 => ?_) (fun q1 => ?_)
  · refine ok_gd ?_ (fun g2 => ?_)
    · have c3 : (0 : Int32) ≤ (M8.1 26 0 38) ∧ (M8.1 26 0 38) ≤ (12 : Int32) := hM8.at1 26 0 38
      exact vp_of (by decide) (by grind) (show ((M8.1 26 0 38) - (1 : Int32)) < (12 : Int32) by grind)
    have g2 := vp_to (by decide) g2
    have g2 : (0 : Int32) ≤ ((M8.1 26 0 38) - (1 : Int32)) ∧ ((M8.1 26 0 38) - (1 : Int32)) < (12 : Int32) := g2
    refine ok_ite (fun q4 => ?_) (fun q4 => ?_)
    · have p5 : (101 : Int32) ≤ (122 : Int32) ∧ (122 : Int32) ≤ (122 : Int32) := by
        exact ⟨by grind, by grind⟩
      exact ok_some ⟨hM8, p5⟩
    · have p6 : (0 : Int32) ≤ v27 ∧ v27 ≤ (1 : Int32) := by
        exact ⟨by grind, by grind⟩
      have p7 : (0 : Int32) ≤ v26 ∧ v26 ≤ (65535 : Int32) := by
        exact ⟨by grind, by grind⟩
      have p8 : (0 : Int32) ≤ p0 ∧ p0 ≤ (40 : Int32) := by
        exact ⟨by grind, by grind⟩
      have p9 : (0 : Int32) ≤ v6 ∧ v6 ≤ (23 : Int32) := by
        exact ⟨by grind, by grind⟩
      have p10 : (0 : Int32) ≤ v7 ∧ v7 ≤ (4 : Int32) := by
        exact ⟨by grind, by grind⟩
      have p11 : (0 : Int32) ≤ p1 ∧ p1 ≤ (39 : Int32) := by
        have c12 : (0 : Int32) ≤ (M8.1 34 0 (p1).toNatClampNeg) ∧ (M8.1 34 0 (p1).toNatClampNeg) ≤ (4 : Int32) := hM8.at1 34 0 ((p1).toNatClampNeg)
        exact ⟨by grind, by grind⟩
      have p13 : isL v26 := by
        grind
      have p14 : (v27 = 0 ∧ ¬ v26 = 110 ∧ ¬ v26 = 105 ∧ ¬ v26 = 100) ∨ (v27 = 1 ∧ (v26 = 110 ∨ v26 = 105 ∨ v26 = 100)) := by
        grind
      have p15 : v7 ≤ (M8.1 34 0 (p1).toNatClampNeg) := by
        have c16 : (0 : Int32) ≤ (M8.1 34 0 (p1).toNatClampNeg) ∧ (M8.1 34 0 (p1).toNatClampNeg) ≤ (4 : Int32) := hM8.at1 34 0 ((p1).toNatClampNeg)
        grind
      have p17 : (M8.1 26 0 40) < (300 : Int32) := by
        have c18 : (0 : Int32) ≤ (M8.1 26 0 40) ∧ (M8.1 26 0 40) ≤ (300 : Int32) := hM8.at1 26 0 40
        grind
      have p19 : (v26 = 43 ∨ v26 = 45 ∨ v26 = 42 ∨ v26 = 37 ∨ v26 = 115) → (2 : Int32) ≤ (M8.1 26 0 38) := by
        have c20 : (0 : Int32) ≤ (M8.1 26 0 38) ∧ (M8.1 26 0 38) ≤ (12 : Int32) := hM8.at1 26 0 38
        grind
      have p21 : ¬ v26 = 110 → ¬ v26 = 105 → (1 : Int32) ≤ (M8.1 26 0 38) := by
        have c22 : (0 : Int32) ≤ (M8.1 26 0 38) ∧ (M8.1 26 0 38) ≤ (12 : Int32) := hM8.at1 26 0 38
        grind
      have p23 : v26 = 105 → v7 < (M8.1 34 0 (p1).toNatClampNeg) := by
        have c24 : (0 : Int32) ≤ (M8.1 34 0 (p1).toNatClampNeg) ∧ (M8.1 34 0 (p1).toNatClampNeg) ≤ (4 : Int32) := hM8.at1 34 0 ((p1).toNatClampNeg)
        grind
      have p25 : v26 = 37 → ¬ (M8.1 53 0 (((M8.1 26 0 38) - (1 : Int32))).toNatClampNeg) = 0 := by
        have c26 : (0 : Int32) ≤ (M8.1 26 0 38) ∧ (M8.1 26 0 38) ≤ (12 : Int32) := hM8.at1 26 0 38
        grind
      exact s_X7_runs_J145 (n := _) rc hrc k4 hk v27 p6 v26 p7 M8 hM8 p0 p8 v6 p9 v7 p10 p1 p11 p13 p14 p15 p17 p19 p21 p23 p25 (a1) (a2) (a3) (fun p => a4 p) (fun p => a5 p) hF
  · have p27 : (0 : Int32) ≤ v27 ∧ v27 ≤ (1 : Int32) := by
      exact ⟨by grind, by grind⟩
    have p28 : (0 : Int32) ≤ v26 ∧ v26 ≤ (65535 : Int32) := by
      exact ⟨by grind, by grind⟩
    have p29 : (0 : Int32) ≤ p0 ∧ p0 ≤ (40 : Int32) := by
      exact ⟨by grind, by grind⟩
    have p30 : (0 : Int32) ≤ v6 ∧ v6 ≤ (23 : Int32) := by
      exact ⟨by grind, by grind⟩
    have p31 : (0 : Int32) ≤ v7 ∧ v7 ≤ (4 : Int32) := by
      exact ⟨by grind, by grind⟩
    have p32 : (0 : Int32) ≤ p1 ∧ p1 ≤ (39 : Int32) := by
      have c33 : (0 : Int32) ≤ (M8.1 34 0 (p1).toNatClampNeg) ∧ (M8.1 34 0 (p1).toNatClampNeg) ≤ (4 : Int32) := hM8.at1 34 0 ((p1).toNatClampNeg)
      exact ⟨by grind, by grind⟩
    have p34 : isL v26 := by
      grind
    have p35 : (v27 = 0 ∧ ¬ v26 = 110 ∧ ¬ v26 = 105 ∧ ¬ v26 = 100) ∨ (v27 = 1 ∧ (v26 = 110 ∨ v26 = 105 ∨ v26 = 100)) := by
      grind
    have p36 : v7 ≤ (M8.1 34 0 (p1).toNatClampNeg) := by
      have c37 : (0 : Int32) ≤ (M8.1 34 0 (p1).toNatClampNeg) ∧ (M8.1 34 0 (p1).toNatClampNeg) ≤ (4 : Int32) := hM8.at1 34 0 ((p1).toNatClampNeg)
      grind
    have p38 : (M8.1 26 0 40) < (300 : Int32) := by
      have c39 : (0 : Int32) ≤ (M8.1 26 0 40) ∧ (M8.1 26 0 40) ≤ (300 : Int32) := hM8.at1 26 0 40
      grind
    have p40 : (v26 = 43 ∨ v26 = 45 ∨ v26 = 42 ∨ v26 = 37 ∨ v26 = 115) → (2 : Int32) ≤ (M8.1 26 0 38) := by
      have c41 : (0 : Int32) ≤ (M8.1 26 0 38) ∧ (M8.1 26 0 38) ≤ (12 : Int32) := hM8.at1 26 0 38
      grind
    have p42 : ¬ v26 = 110 → ¬ v26 = 105 → (1 : Int32) ≤ (M8.1 26 0 38) := by
      have c43 : (0 : Int32) ≤ (M8.1 26 0 38) ∧ (M8.1 26 0 38) ≤ (12 : Int32) := hM8.at1 26 0 38
      grind
    have p44 : v26 = 105 → v7 < (M8.1 34 0 (p1).toNatClampNeg) := by
      have c45 : (0 : Int32) ≤ (M8.1 34 0 (p1).toNatClampNeg) ∧ (M8.1 34 0 (p1).toNatClampNeg) ≤ (4 : Int32) := hM8.at1 34 0 ((p1).toNatClampNeg)
      grind
    have p46 : v26 = 37 → ¬ (M8.1 53 0 (((M8.1 26 0 38) - (1 : Int32))).toNatClampNeg) = 0 := by
      have c47 : (0 : Int32) ≤ (M8.1 26 0 38) ∧ (M8.1 26 0 38) ≤ (12 : Int32) := hM8.at1 26 0 38
      grind
    exact s_X7_runs_J145 (n := _) rc hrc k4 hk v27 p27 v26 p28 M8 hM8 p0 p29 v6 p30 v7 p31 p1 p32 p34 p35 p36 p38 p40 p42 p44 p46 (a1) (a2) (a3) (fun p => a4 p) (fun p => a5 p) hF
theorem s_X7_runs_J71 {A : Nat → Nat → Nat → Prop} {B : SS} {n : Nat} (rc : Int32 → Int32 → SS → (SS → Option (SS × Int32)) → Option (SS × Int32)) (hrc : ∀ (v6 : Int32) (v7 : Int32) (M8 : SS) (k4 : (SS → Option (SS × Int32))), (FU ((M8.1 26 0 40)) 300 n) → ((0 : Int32) ≤ v6 ∧ v6 ≤ (24 : Int32)) → ((0 : Int32) ≤ v7 ∧ v7 ≤ (4 : Int32)) → (IV A B M8) → (v7 ≤ (M8.1 34 0 (p1).toNatClampNeg)) → (∀ (k_0 : SS), (IV A B k_0) → ok (k4 k_0) (fun r => IV A B r.1 ∧ (101 : Int32) ≤ r.2 ∧ r.2 ≤ (122 : Int32))) → ok (rc v6 v7 M8 k4) (fun r => IV A B r.1 ∧ (101 : Int32) ≤ r.2 ∧ r.2 ≤ (122 : Int32))) (k4 : SS → Option (SS × Int32)) (hk : ∀ (k_0 : SS), (IV A B k_0) → ok (k4 k_0) (fun r => IV A B r.1 ∧ (101 : Int32) ≤ r.2 ∧ r.2 ≤ (122 : Int32))) (M8 : SS) (hM8 : IV A B M8) (v26 : Int32) (iv26 : (0 : Int32) ≤ v26 ∧ v26 ≤ (65535 : Int32)) (p1 : Int32) (ip1 : (0 : Int32) ≤ p1 ∧ p1 ≤ (39 : Int32)) (v7 : Int32) (iv7 : (0 : Int32) ≤ v7 ∧ v7 ≤ (4 : Int32)) (p0 : Int32) (ip0 : (0 : Int32) ≤ p0 ∧ p0 ≤ (40 : Int32)) (v6 : Int32) (iv6 : (0 : Int32) ≤ v6 ∧ v6 ≤ (23 : Int32)) (v27 : Int32) (iv27 : (0 : Int32) ≤ v27 ∧ v27 ≤ (1 : Int32)) (x0 : isL v26) (x1 : (v27 = 0 ∧ ¬ v26 = 110 ∧ ¬ v26 = 105 ∧ ¬ v26 = 100) ∨ (v27 = 1 ∧ (v26 = 110 ∨ v26 = 105 ∨ v26 = 100))) (x2 : v7 ≤ (M8.1 34 0 (p1).toNatClampNeg)) (a1 : A 26 0 38) (a2 : A 26 0 39) (a3 : A 26 0 40) (a4 : ∀ p, A 53 0 p) (a5 : ∀ p, A 54 0 p) (hF : FU ((M8.1 26 0 40)) 300 (n + 1)) : ok (f_X7_runs_J71 rc k4 M8 v26 p1 v7 p0 v6 v27) (fun r => IV A B r.1 ∧ (101 : Int32) ≤ r.2 ∧ r.2 ≤ (122 : Int32)) := by
  unfold f_X7_runs_J71
  refine ok_ite (fun q1 => ?_) (fun q1 => ?_)
  · have p2 : (101 : Int32) ≤ (116 : Int32) ∧ (116 : Int32) ≤ (122 : Int32) := by
      exact ⟨by grind, by grind⟩
    exact ok_some ⟨hM8, p2⟩
  · have p3 : (0 : Int32) ≤ v26 ∧ v26 ≤ (65535 : Int32) := by
      exact ⟨by grind, by grind⟩
    refine ok_b0 (s_X7_needs v26 p3) (fun v30 w4 => ?_)
    have w5 : (0 : Int32) ≤ v30 ∧ v30 ≤ (2 : Int32) ∧ (((v26 = 43 ∨ v26 = 45 ∨ v26 = 42 ∨ v26 = 37 ∨ v26 = 115) → v30 = 2) ∧ (¬ v26 = 110 → ¬ v26 = 105 → (1 : Int32) ≤ v30)) := w4
    refine ok_ite (fun q6 => ?_) (fun q6 => ?_)
    · refine ok_ite (fun q7 => ?_) (fun q7 => ?_)
      · refine ok_gd ?_ (fun g8 => ?_)
        · have c9 : (0 : Int32) ≤ (M8.1 34 0 (p1).toNatClampNeg) ∧ (M8.1 34 0 (p1).toNatClampNeg) ≤ (4 : Int32) := hM8.at1 34 0 ((p1).toNatClampNeg)
          exact vp_of (by decide) (by grind) (show p1 < (40 : Int32) by grind)
        have g8 := vp_to (by decide) g8
        have g8 : (0 : Int32) ≤ p1 ∧ p1 < (40 : Int32) := g8
        refine ok_ite (fun q10 => ?_) (fun q10 => ?_)
        · have p11 : (101 : Int32) ≤ (101 : Int32) ∧ (101 : Int32) ≤ (122 : Int32) := by
            exact ⟨by grind, by grind⟩
          exact ok_some ⟨hM8, p11⟩
        · have p12 : (0 : Int32) ≤ v26 ∧ v26 ≤ (65535 : Int32) := by
            exact ⟨by grind, by grind⟩
          have p13 : (0 : Int32) ≤ v27 ∧ v27 ≤ (1 : Int32) := by
            exact ⟨by grind, by grind⟩
          have p14 : (0 : Int32) ≤ p0 ∧ p0 ≤ (40 : Int32) := by
            exact ⟨by grind, by grind⟩
          have p15 : (0 : Int32) ≤ v6 ∧ v6 ≤ (23 : Int32) := by
            exact ⟨by grind, by grind⟩
          have p16 : (0 : Int32) ≤ v7 ∧ v7 ≤ (4 : Int32) := by
            have c17 : (0 : Int32) ≤ (M8.1 34 0 (p1).toNatClampNeg) ∧ (M8.1 34 0 (p1).toNatClampNeg) ≤ (4 : Int32) := hM8.at1 34 0 ((p1).toNatClampNeg)
            exact ⟨by grind, by grind⟩
          have p18 : (0 : Int32) ≤ p1 ∧ p1 ≤ (39 : Int32) := by
            have c19 : (0 : Int32) ≤ (M8.1 34 0 (p1).toNatClampNeg) ∧ (M8.1 34 0 (p1).toNatClampNeg) ≤ (4 : Int32) := hM8.at1 34 0 ((p1).toNatClampNeg)
            exact ⟨by grind, by grind⟩
          have p20 : isL v26 := by
            grind
          have p21 : (v27 = 0 ∧ ¬ v26 = 110 ∧ ¬ v26 = 105 ∧ ¬ v26 = 100) ∨ (v27 = 1 ∧ (v26 = 110 ∨ v26 = 105 ∨ v26 = 100)) := by
            grind
          have p22 : v7 ≤ (M8.1 34 0 (p1).toNatClampNeg) := by
            have c23 : (0 : Int32) ≤ (M8.1 34 0 (p1).toNatClampNeg) ∧ (M8.1 34 0 (p1).toNatClampNeg) ≤ (4 : Int32) := hM8.at1 34 0 ((p1).toNatClampNeg)
            grind
          have p24 : (M8.1 26 0 40) < (300 : Int32) := by
            have c25 : (0 : Int32) ≤ (M8.1 26 0 40) ∧ (M8.1 26 0 40) ≤ (300 : Int32) := hM8.at1 26 0 40
            grind
          have p26 : (v26 = 43 ∨ v26 = 45 ∨ v26 = 42 ∨ v26 = 37 ∨ v26 = 115) → (2 : Int32) ≤ (M8.1 26 0 38) := by
            have c27 : (0 : Int32) ≤ (M8.1 26 0 38) ∧ (M8.1 26 0 38) ≤ (12 : Int32) := hM8.at1 26 0 38
            grind
          have p28 : ¬ v26 = 110 → ¬ v26 = 105 → (1 : Int32) ≤ (M8.1 26 0 38) := by
            have c29 : (0 : Int32) ≤ (M8.1 26 0 38) ∧ (M8.1 26 0 38) ≤ (12 : Int32) := hM8.at1 26 0 38
            grind
          have p30 : v26 = 105 → v7 < (M8.1 34 0 (p1).toNatClampNeg) := by
            have c31 : (0 : Int32) ≤ (M8.1 34 0 (p1).toNatClampNeg) ∧ (M8.1 34 0 (p1).toNatClampNeg) ≤ (4 : Int32) := hM8.at1 34 0 ((p1).toNatClampNeg)
            grind
          exact s_X7_runs_J121 (n := _) rc hrc k4 hk v26 p12 M8 hM8 v27 p13 p0 p14 v6 p15 v7 p16 p1 p18 p20 p21 p22 p24 p26 p28 p30 (a1) (a2) (a3) (fun p => a4 p) (fun p => a5 p) hF
      · have p32 : (0 : Int32) ≤ v26 ∧ v26 ≤ (65535 : Int32) := by
          exact ⟨by grind, by grind⟩
        have p33 : (0 : Int32) ≤ v27 ∧ v27 ≤ (1 : Int32) := by
          exact ⟨by grind, by grind⟩
        have p34 : (0 : Int32) ≤ p0 ∧ p0 ≤ (40 : Int32) := by
          exact ⟨by grind, by grind⟩
        have p35 : (0 : Int32) ≤ v6 ∧ v6 ≤ (23 : Int32) := by
          exact ⟨by grind, by grind⟩
        have p36 : (0 : Int32) ≤ v7 ∧ v7 ≤ (4 : Int32) := by
          exact ⟨by grind, by grind⟩
        have p37 : (0 : Int32) ≤ p1 ∧ p1 ≤ (39 : Int32) := by
          have c38 : (0 : Int32) ≤ (M8.1 34 0 (p1).toNatClampNeg) ∧ (M8.1 34 0 (p1).toNatClampNeg) ≤ (4 : Int32) := hM8.at1 34 0 ((p1).toNatClampNeg)
          exact ⟨by grind, by grind⟩
        have p39 : isL v26 := by
          grind
        have p40 : (v27 = 0 ∧ ¬ v26 = 110 ∧ ¬ v26 = 105 ∧ ¬ v26 = 100) ∨ (v27 = 1 ∧ (v26 = 110 ∨ v26 = 105 ∨ v26 = 100)) := by
          grind
        have p41 : v7 ≤ (M8.1 34 0 (p1).toNatClampNeg) := by
          have c42 : (0 : Int32) ≤ (M8.1 34 0 (p1).toNatClampNeg) ∧ (M8.1 34 0 (p1).toNatClampNeg) ≤ (4 : Int32) := hM8.at1 34 0 ((p1).toNatClampNeg)
          grind
        have p43 : (M8.1 26 0 40) < (300 : Int32) := by
          have c44 : (0 : Int32) ≤ (M8.1 26 0 40) ∧ (M8.1 26 0 40) ≤ (300 : Int32) := hM8.at1 26 0 40
          grind
        have p45 : (v26 = 43 ∨ v26 = 45 ∨ v26 = 42 ∨ v26 = 37 ∨ v26 = 115) → (2 : Int32) ≤ (M8.1 26 0 38) := by
          have c46 : (0 : Int32) ≤ (M8.1 26 0 38) ∧ (M8.1 26 0 38) ≤ (12 : Int32) := hM8.at1 26 0 38
          grind
        have p47 : ¬ v26 = 110 → ¬ v26 = 105 → (1 : Int32) ≤ (M8.1 26 0 38) := by
          have c48 : (0 : Int32) ≤ (M8.1 26 0 38) ∧ (M8.1 26 0 38) ≤ (12 : Int32) := hM8.at1 26 0 38
          grind
        have p49 : v26 = 105 → v7 < (M8.1 34 0 (p1).toNatClampNeg) := by
          have c50 : (0 : Int32) ≤ (M8.1 34 0 (p1).toNatClampNeg) ∧ (M8.1 34 0 (p1).toNatClampNeg) ≤ (4 : Int32) := hM8.at1 34 0 ((p1).toNatClampNeg)
          grind
        exact s_X7_runs_J121 (n := _) rc hrc k4 hk v26 p32 M8 hM8 v27 p33 p0 p34 v6 p35 v7 p36 p1 p37 p39 p40 p41 p43 p45 p47 p49 (a1) (a2) (a3) (fun p => a4 p) (fun p => a5 p) hF
    · have p51 : (101 : Int32) ≤ (117 : Int32) ∧ (117 : Int32) ≤ (122 : Int32) := by
        exact ⟨by grind, by grind⟩
      exact ok_some ⟨hM8, p51⟩
theorem s_X7_runs_L20 {A : Nat → Nat → Nat → Prop} {B : SS} (p0 : Int32) (ip0 : (0 : Int32) ≤ p0 ∧ p0 ≤ (40 : Int32)) (p1 : Int32) (ip1 : (0 : Int32) ≤ p1 ∧ p1 ≤ (39 : Int32)) (a1 : A 26 0 38) (a2 : A 26 0 39) (a3 : A 26 0 40) (a4 : ∀ p, A 53 0 p) (a5 : ∀ p, A 54 0 p) : ∀ (n : Nat), ∀ (v6 : Int32) (v7 : Int32) (M8 : SS) (k4 : (SS → Option (SS × Int32))), (FU ((M8.1 26 0 40)) 300 n) → ((0 : Int32) ≤ v6 ∧ v6 ≤ (24 : Int32)) → ((0 : Int32) ≤ v7 ∧ v7 ≤ (4 : Int32)) → (IV A B M8) → (v7 ≤ (M8.1 34 0 (p1).toNatClampNeg)) → (∀ (k_0 : SS), (IV A B k_0) → ok (k4 k_0) (fun r => IV A B r.1 ∧ (101 : Int32) ≤ r.2 ∧ r.2 ≤ (122 : Int32))) → ok (f_X7_runs_L20 p0 p1 n v6 v7 M8 k4) (fun r => IV A B r.1 ∧ (101 : Int32) ≤ r.2 ∧ r.2 ≤ (122 : Int32)) := by
  intro n
  induction n with
  | zero =>
    intro v6 v7 M8 k4 hF iv6 iv7 hM8 x0 hk
    exact (FU.stop hF (by have : (0 : Int32) ≤ (M8.1 26 0 40) ∧ (M8.1 26 0 40) ≤ (300 : Int32) := hM8.at1 _ _ _; grind)).elim
  | succ n ih =>
    intro v6 v7 M8 k4 hF iv6 iv7 hM8 x0 hk
    rw [f_X7_runs_L20]
    refine ok_gd ?_ (fun g1 => ?_)
    · exact vp_of (by decide) (by grind) (show p0 < (41 : Int32) by grind)
    have g1 := vp_to (by decide) g1
    have g1 : (0 : Int32) ≤ p0 ∧ p0 < (41 : Int32) := g1
    refine ok_ite (fun q2 => ?_) (fun q2 => ?_)
    · exact hk M8 hM8
    · refine ok_gd ?_ (fun g3 => ?_)
      · have c4 : (0 : Int32) ≤ (M8.1 29 0 (p0).toNatClampNeg) ∧ (M8.1 29 0 (p0).toNatClampNeg) ≤ (24 : Int32) := hM8.at1 29 0 ((p0).toNatClampNeg)
        exact vp_of (by decide) (by grind) (show (((24 : Int32) * p0) + v6) < (984 : Int32) by grind)
      have g3 := vp_to (by decide) g3
      have g3 : (0 : Int32) ≤ (((24 : Int32) * p0) + v6) ∧ (((24 : Int32) * p0) + v6) < (984 : Int32) := g3
      refine ok_lq (fun v26 e5 => ?_)
      refine ok_ite (fun q6 => ?_) (fun q6 => ?_)
      · unfold f_X7_runs_J66
        have p7 : (0 : Int32) ≤ v26 ∧ v26 ≤ (65535 : Int32) := by
          have c8 : (0 : Int32) ≤ (M8.1 27 0 ((((24 : Int32) * p0) + v6)).toNatClampNeg) ∧ (M8.1 27 0 ((((24 : Int32) * p0) + v6)).toNatClampNeg) ≤ (65535 : Int32) := hM8.at1 27 0 (((((24 : Int32) * p0) + v6)).toNatClampNeg)
          exact ⟨by grind, by grind⟩
        have p9 : (0 : Int32) ≤ p1 ∧ p1 ≤ (39 : Int32) := by
          have c10 : (0 : Int32) ≤ (M8.1 34 0 (p1).toNatClampNeg) ∧ (M8.1 34 0 (p1).toNatClampNeg) ≤ (4 : Int32) := hM8.at1 34 0 ((p1).toNatClampNeg)
          exact ⟨by grind, by grind⟩
        have p11 : (0 : Int32) ≤ v7 ∧ v7 ≤ (4 : Int32) := by
          exact ⟨by grind, by grind⟩
        have p12 : (0 : Int32) ≤ p0 ∧ p0 ≤ (40 : Int32) := by
          have c13 : (0 : Int32) ≤ (M8.1 29 0 (p0).toNatClampNeg) ∧ (M8.1 29 0 (p0).toNatClampNeg) ≤ (24 : Int32) := hM8.at1 29 0 ((p0).toNatClampNeg)
          exact ⟨by grind, by grind⟩
        have p14 : (0 : Int32) ≤ v6 ∧ v6 ≤ (23 : Int32) := by
          have c15 : (0 : Int32) ≤ (M8.1 29 0 (p0).toNatClampNeg) ∧ (M8.1 29 0 (p0).toNatClampNeg) ≤ (24 : Int32) := hM8.at1 29 0 ((p0).toNatClampNeg)
          exact ⟨by grind, by grind⟩
        have p16 : isL v26 := by
          have c17 : (0 : Int32) ≤ (M8.1 27 0 ((((24 : Int32) * p0) + v6)).toNatClampNeg) ∧ (M8.1 27 0 ((((24 : Int32) * p0) + v6)).toNatClampNeg) ≤ (65535 : Int32) := hM8.at1 27 0 (((((24 : Int32) * p0) + v6)).toNatClampNeg)
          grind
        have p18 : ((1 : Int32) = 0 ∧ ¬ v26 = 110 ∧ ¬ v26 = 105 ∧ ¬ v26 = 100) ∨ ((1 : Int32) = 1 ∧ (v26 = 110 ∨ v26 = 105 ∨ v26 = 100)) := by
          have c19 : (0 : Int32) ≤ (M8.1 27 0 ((((24 : Int32) * p0) + v6)).toNatClampNeg) ∧ (M8.1 27 0 ((((24 : Int32) * p0) + v6)).toNatClampNeg) ≤ (65535 : Int32) := hM8.at1 27 0 (((((24 : Int32) * p0) + v6)).toNatClampNeg)
          grind
        have p20 : v7 ≤ (M8.1 34 0 (p1).toNatClampNeg) := by
          have c21 : (0 : Int32) ≤ (M8.1 34 0 (p1).toNatClampNeg) ∧ (M8.1 34 0 (p1).toNatClampNeg) ≤ (4 : Int32) := hM8.at1 34 0 ((p1).toNatClampNeg)
          grind
        exact s_X7_runs_J71 (n := _) ((f_X7_runs_L20 p0 p1 n)) ih k4 hk M8 hM8 v26 p7 p1 p9 v7 p11 p0 p12 v6 p14 (1 : Int32) ⟨by decide, by decide⟩ p16 p18 p20 (a1) (a2) (a3) (fun p => a4 p) (fun p => a5 p) hF
      · refine ok_ite (fun q22 => ?_) (fun q22 => ?_)
        · unfold f_X7_runs_J66
          have p23 : (0 : Int32) ≤ v26 ∧ v26 ≤ (65535 : Int32) := by
            have c24 : (0 : Int32) ≤ (M8.1 27 0 ((((24 : Int32) * p0) + v6)).toNatClampNeg) ∧ (M8.1 27 0 ((((24 : Int32) * p0) + v6)).toNatClampNeg) ≤ (65535 : Int32) := hM8.at1 27 0 (((((24 : Int32) * p0) + v6)).toNatClampNeg)
            exact ⟨by grind, by grind⟩
          have p25 : (0 : Int32) ≤ p1 ∧ p1 ≤ (39 : Int32) := by
            have c26 : (0 : Int32) ≤ (M8.1 34 0 (p1).toNatClampNeg) ∧ (M8.1 34 0 (p1).toNatClampNeg) ≤ (4 : Int32) := hM8.at1 34 0 ((p1).toNatClampNeg)
            exact ⟨by grind, by grind⟩
          have p27 : (0 : Int32) ≤ v7 ∧ v7 ≤ (4 : Int32) := by
            exact ⟨by grind, by grind⟩
          have p28 : (0 : Int32) ≤ p0 ∧ p0 ≤ (40 : Int32) := by
            have c29 : (0 : Int32) ≤ (M8.1 29 0 (p0).toNatClampNeg) ∧ (M8.1 29 0 (p0).toNatClampNeg) ≤ (24 : Int32) := hM8.at1 29 0 ((p0).toNatClampNeg)
            exact ⟨by grind, by grind⟩
          have p30 : (0 : Int32) ≤ v6 ∧ v6 ≤ (23 : Int32) := by
            have c31 : (0 : Int32) ≤ (M8.1 29 0 (p0).toNatClampNeg) ∧ (M8.1 29 0 (p0).toNatClampNeg) ≤ (24 : Int32) := hM8.at1 29 0 ((p0).toNatClampNeg)
            exact ⟨by grind, by grind⟩
          have p32 : isL v26 := by
            have c33 : (0 : Int32) ≤ (M8.1 27 0 ((((24 : Int32) * p0) + v6)).toNatClampNeg) ∧ (M8.1 27 0 ((((24 : Int32) * p0) + v6)).toNatClampNeg) ≤ (65535 : Int32) := hM8.at1 27 0 (((((24 : Int32) * p0) + v6)).toNatClampNeg)
            grind
          have p34 : ((1 : Int32) = 0 ∧ ¬ v26 = 110 ∧ ¬ v26 = 105 ∧ ¬ v26 = 100) ∨ ((1 : Int32) = 1 ∧ (v26 = 110 ∨ v26 = 105 ∨ v26 = 100)) := by
            have c35 : (0 : Int32) ≤ (M8.1 27 0 ((((24 : Int32) * p0) + v6)).toNatClampNeg) ∧ (M8.1 27 0 ((((24 : Int32) * p0) + v6)).toNatClampNeg) ≤ (65535 : Int32) := hM8.at1 27 0 (((((24 : Int32) * p0) + v6)).toNatClampNeg)
            grind
          have p36 : v7 ≤ (M8.1 34 0 (p1).toNatClampNeg) := by
            have c37 : (0 : Int32) ≤ (M8.1 34 0 (p1).toNatClampNeg) ∧ (M8.1 34 0 (p1).toNatClampNeg) ≤ (4 : Int32) := hM8.at1 34 0 ((p1).toNatClampNeg)
            grind
          exact s_X7_runs_J71 (n := _) ((f_X7_runs_L20 p0 p1 n)) ih k4 hk M8 hM8 v26 p23 p1 p25 v7 p27 p0 p28 v6 p30 (1 : Int32) ⟨by decide, by decide⟩ p32 p34 p36 (a1) (a2) (a3) (fun p => a4 p) (fun p => a5 p) hF
        · refine ok_ite (fun q38 => ?_) (fun q38 => ?_)
          · unfold f_X7_runs_J66
            have p39 : (0 : Int32) ≤ v26 ∧ v26 ≤ (65535 : Int32) := by
              have c40 : (0 : Int32) ≤ (M8.1 27 0 ((((24 : Int32) * p0) + v6)).toNatClampNeg) ∧ (M8.1 27 0 ((((24 : Int32) * p0) + v6)).toNatClampNeg) ≤ (65535 : Int32) := hM8.at1 27 0 (((((24 : Int32) * p0) + v6)).toNatClampNeg)
              exact ⟨by grind, by grind⟩
            have p41 : (0 : Int32) ≤ p1 ∧ p1 ≤ (39 : Int32) := by
              have c42 : (0 : Int32) ≤ (M8.1 34 0 (p1).toNatClampNeg) ∧ (M8.1 34 0 (p1).toNatClampNeg) ≤ (4 : Int32) := hM8.at1 34 0 ((p1).toNatClampNeg)
              exact ⟨by grind, by grind⟩
            have p43 : (0 : Int32) ≤ v7 ∧ v7 ≤ (4 : Int32) := by
              exact ⟨by grind, by grind⟩
            have p44 : (0 : Int32) ≤ p0 ∧ p0 ≤ (40 : Int32) := by
              have c45 : (0 : Int32) ≤ (M8.1 29 0 (p0).toNatClampNeg) ∧ (M8.1 29 0 (p0).toNatClampNeg) ≤ (24 : Int32) := hM8.at1 29 0 ((p0).toNatClampNeg)
              exact ⟨by grind, by grind⟩
            have p46 : (0 : Int32) ≤ v6 ∧ v6 ≤ (23 : Int32) := by
              have c47 : (0 : Int32) ≤ (M8.1 29 0 (p0).toNatClampNeg) ∧ (M8.1 29 0 (p0).toNatClampNeg) ≤ (24 : Int32) := hM8.at1 29 0 ((p0).toNatClampNeg)
              exact ⟨by grind, by grind⟩
            have p48 : isL v26 := by
              have c49 : (0 : Int32) ≤ (M8.1 27 0 ((((24 : Int32) * p0) + v6)).toNatClampNeg) ∧ (M8.1 27 0 ((((24 : Int32) * p0) + v6)).toNatClampNeg) ≤ (65535 : Int32) := hM8.at1 27 0 (((((24 : Int32) * p0) + v6)).toNatClampNeg)
              grind
            have p50 : ((1 : Int32) = 0 ∧ ¬ v26 = 110 ∧ ¬ v26 = 105 ∧ ¬ v26 = 100) ∨ ((1 : Int32) = 1 ∧ (v26 = 110 ∨ v26 = 105 ∨ v26 = 100)) := by
              have c51 : (0 : Int32) ≤ (M8.1 27 0 ((((24 : Int32) * p0) + v6)).toNatClampNeg) ∧ (M8.1 27 0 ((((24 : Int32) * p0) + v6)).toNatClampNeg) ≤ (65535 : Int32) := hM8.at1 27 0 (((((24 : Int32) * p0) + v6)).toNatClampNeg)
              grind
            have p52 : v7 ≤ (M8.1 34 0 (p1).toNatClampNeg) := by
              have c53 : (0 : Int32) ≤ (M8.1 34 0 (p1).toNatClampNeg) ∧ (M8.1 34 0 (p1).toNatClampNeg) ≤ (4 : Int32) := hM8.at1 34 0 ((p1).toNatClampNeg)
              grind
            exact s_X7_runs_J71 (n := _) ((f_X7_runs_L20 p0 p1 n)) ih k4 hk M8 hM8 v26 p39 p1 p41 v7 p43 p0 p44 v6 p46 (1 : Int32) ⟨by decide, by decide⟩ p48 p50 p52 (a1) (a2) (a3) (fun p => a4 p) (fun p => a5 p) hF
          · have p54 : (0 : Int32) ≤ v26 ∧ v26 ≤ (65535 : Int32) := by
              have c55 : (0 : Int32) ≤ (M8.1 27 0 ((((24 : Int32) * p0) + v6)).toNatClampNeg) ∧ (M8.1 27 0 ((((24 : Int32) * p0) + v6)).toNatClampNeg) ≤ (65535 : Int32) := hM8.at1 27 0 (((((24 : Int32) * p0) + v6)).toNatClampNeg)
              exact ⟨by grind, by grind⟩
            have p56 : (0 : Int32) ≤ p1 ∧ p1 ≤ (39 : Int32) := by
              have c57 : (0 : Int32) ≤ (M8.1 34 0 (p1).toNatClampNeg) ∧ (M8.1 34 0 (p1).toNatClampNeg) ≤ (4 : Int32) := hM8.at1 34 0 ((p1).toNatClampNeg)
              exact ⟨by grind, by grind⟩
            have p58 : (0 : Int32) ≤ v7 ∧ v7 ≤ (4 : Int32) := by
              exact ⟨by grind, by grind⟩
            have p59 : (0 : Int32) ≤ p0 ∧ p0 ≤ (40 : Int32) := by
              have c60 : (0 : Int32) ≤ (M8.1 29 0 (p0).toNatClampNeg) ∧ (M8.1 29 0 (p0).toNatClampNeg) ≤ (24 : Int32) := hM8.at1 29 0 ((p0).toNatClampNeg)
              exact ⟨by grind, by grind⟩
            have p61 : (0 : Int32) ≤ v6 ∧ v6 ≤ (23 : Int32) := by
              have c62 : (0 : Int32) ≤ (M8.1 29 0 (p0).toNatClampNeg) ∧ (M8.1 29 0 (p0).toNatClampNeg) ≤ (24 : Int32) := hM8.at1 29 0 ((p0).toNatClampNeg)
              exact ⟨by grind, by grind⟩
            have p63 : isL v26 := by
              have c64 : (0 : Int32) ≤ (M8.1 27 0 ((((24 : Int32) * p0) + v6)).toNatClampNeg) ∧ (M8.1 27 0 ((((24 : Int32) * p0) + v6)).toNatClampNeg) ≤ (65535 : Int32) := hM8.at1 27 0 (((((24 : Int32) * p0) + v6)).toNatClampNeg)
              grind
            have p65 : ((0 : Int32) = 0 ∧ ¬ v26 = 110 ∧ ¬ v26 = 105 ∧ ¬ v26 = 100) ∨ ((0 : Int32) = 1 ∧ (v26 = 110 ∨ v26 = 105 ∨ v26 = 100)) := by
              have c66 : (0 : Int32) ≤ (M8.1 27 0 ((((24 : Int32) * p0) + v6)).toNatClampNeg) ∧ (M8.1 27 0 ((((24 : Int32) * p0) + v6)).toNatClampNeg) ≤ (65535 : Int32) := hM8.at1 27 0 (((((24 : Int32) * p0) + v6)).toNatClampNeg)
              grind
            have p67 : v7 ≤ (M8.1 34 0 (p1).toNatClampNeg) := by
              have c68 : (0 : Int32) ≤ (M8.1 34 0 (p1).toNatClampNeg) ∧ (M8.1 34 0 (p1).toNatClampNeg) ≤ (4 : Int32) := hM8.at1 34 0 ((p1).toNatClampNeg)
              grind
            exact s_X7_runs_J71 (n := _) (f_X7_runs_L20 p0 p1 n) ih k4 hk M8 hM8 v26 p54 p1 p56 v7 p58 p0 p59 v6 p61 (0 : Int32) ⟨by decide, by decide⟩ p63 p65 p67 (a1) (a2) (a3) (fun p => a4 p) (fun p => a5 p) hF
theorem s_X7_runs {A : Nat → Nat → Nat → Prop} {B : SS} (M : SS) (hM : IV A B M) (p0 : Int32) (ip0 : (0 : Int32) ≤ p0 ∧ p0 ≤ (40 : Int32)) (p1 : Int32) (ip1 : (0 : Int32) ≤ p1 ∧ p1 ≤ (39 : Int32)) (a1 : A 26 0 38) (a2 : A 26 0 39) (a3 : A 26 0 40) (a4 : ∀ p, A 53 0 p) (a5 : ∀ p, A 54 0 p) : ok (f_X7_runs M p0 p1) (fun r => IV A B r.1 ∧ (101 : Int32) ≤ r.2 ∧ r.2 ≤ (122 : Int32)) := by
  unfold f_X7_runs
  refine ok_lq (fun M1 e1 => ?_)
  have hM1 : IV A B M1 := by rw [e1]; exact hM.u1 rfl (a1) ⟨by decide, by decide⟩
  refine ok_lq (fun M2 e2 => ?_)
  have hM2 : IV A B M2 := by rw [e2]; exact hM1.u1 rfl (a2) ⟨by decide, by decide⟩
  refine ok_lq (fun M3 e3 => ?_)
  have hM3 : IV A B M3 := by rw [e3]; exact hM2.u1 rfl (a3) ⟨by decide, by decide⟩
  have p4 : (0 : Int32) ≤ p0 ∧ p0 ≤ (40 : Int32) := by
    exact ⟨by grind, by grind⟩
  have p5 : (0 : Int32) ≤ p1 ∧ p1 ≤ (39 : Int32) := by
    exact ⟨by grind, by grind⟩
  have p6 : FU (M3.1 26 0 40) 300 1000 := by
    have c7 : (0 : Int32) ≤ (M3.1 26 0 40) ∧ (M3.1 26 0 40) ≤ (300 : Int32) := hM3.at1 26 0 40
    have c8 : (M3.1 26 0 40) = (0 : Int32) := by rw [e3]; exact up_s
    exact FU.start (by grind) (by decide)
  have p9 : (0 : Int32) ≤ (M3.1 34 0 (p1).toNatClampNeg) := by
    have c10 : (0 : Int32) ≤ (M3.1 34 0 (p1).toNatClampNeg) ∧ (M3.1 34 0 (p1).toNatClampNeg) ≤ (4 : Int32) := hM3.at1 34 0 ((p1).toNatClampNeg)
    have c11 : (M3.1 34 0 (p1).toNatClampNeg) = (M2.1 34 0 (p1).toNatClampNeg) := by rw [e3]; exact up_k (by decide)
    have c12 : (0 : Int32) ≤ (M2.1 34 0 (p1).toNatClampNeg) ∧ (M2.1 34 0 (p1).toNatClampNeg) ≤ (4 : Int32) := hM2.at1 34 0 ((p1).toNatClampNeg)
    have c13 : (M2.1 34 0 (p1).toNatClampNeg) = (M1.1 34 0 (p1).toNatClampNeg) := by rw [e2]; exact up_k (by decide)
    have c14 : (0 : Int32) ≤ (M1.1 34 0 (p1).toNatClampNeg) ∧ (M1.1 34 0 (p1).toNatClampNeg) ≤ (4 : Int32) := hM1.at1 34 0 ((p1).toNatClampNeg)
    have c15 : (M1.1 34 0 (p1).toNatClampNeg) = (M.1 34 0 (p1).toNatClampNeg) := by rw [e1]; exact up_k (by decide)
    have c16 : (0 : Int32) ≤ (M.1 34 0 (p1).toNatClampNeg) ∧ (M.1 34 0 (p1).toNatClampNeg) ≤ (4 : Int32) := hM.at1 34 0 ((p1).toNatClampNeg)
    grind
  refine s_X7_runs_L20 p0 p4 p1 p5 (a1) (a2) (a3) (fun p => a4 p) (fun p => a5 p) 1000 (0 : Int32) (0 : Int32) M3 _ p6 ⟨by decide, by decide⟩ ⟨by decide, by decide⟩ hM3 p9 (fun M5 hM5 => ?_)
  refine ok_gd ?_ (fun g17 => ?_)
  · exact vp_of (by decide) (by grind) (show p1 < (40 : Int32) by grind)
  have g17 := vp_to (by decide) g17
  have g17 : (0 : Int32) ≤ p1 ∧ p1 < (40 : Int32) := g17
  refine ok_ite (fun q18 => ?_) (fun q18 => ?_)
  · unfold f_X7_runs_J394
    have p19 : (0 : Int32) ≤ p1 ∧ p1 ≤ (39 : Int32) := by
      have c20 : (0 : Int32) ≤ (M5.1 26 0 39) ∧ (M5.1 26 0 39) ≤ (6 : Int32) := hM5.at1 26 0 39
      have c21 : (0 : Int32) ≤ (M5.1 35 0 (p1).toNatClampNeg) ∧ (M5.1 35 0 (p1).toNatClampNeg) ≤ (6 : Int32) := hM5.at1 35 0 ((p1).toNatClampNeg)
      exact ⟨by grind, by grind⟩
    have p22 : FU (0 : Int32) 6 1000 := by
      exact FU.start (by grind) (by decide)
    refine s_X7_runs_L399 M5 hM5 p1 p19 1000 (0 : Int32) (1 : Int32) _ p22 ⟨by decide, by decide⟩ ⟨by decide, by decide⟩ (fun v13 wv13 => ?_)
    have wv13 : (0 : Int32) ≤ v13 ∧ v13 ≤ (1 : Int32) := wv13
    refine ok_ite (fun q23 => ?_) (fun q23 => ?_)
    · have p24 : (101 : Int32) ≤ (119 : Int32) ∧ (119 : Int32) ≤ (122 : Int32) := by
        exact ⟨by grind, by grind⟩
      exact ok_some ⟨hM5, p24⟩
    · have p25 : (101 : Int32) ≤ (111 : Int32) ∧ (111 : Int32) ≤ (122 : Int32) := by
        exact ⟨by grind, by grind⟩
      exact ok_some ⟨hM5, p25⟩
  · unfold f_X7_runs_J394
    have p26 : (0 : Int32) ≤ p1 ∧ p1 ≤ (39 : Int32) := by
      have c27 : (0 : Int32) ≤ (M5.1 26 0 39) ∧ (M5.1 26 0 39) ≤ (6 : Int32) := hM5.at1 26 0 39
      have c28 : (0 : Int32) ≤ (M5.1 35 0 (p1).toNatClampNeg) ∧ (M5.1 35 0 (p1).toNatClampNeg) ≤ (6 : Int32) := hM5.at1 35 0 ((p1).toNatClampNeg)
      exact ⟨by grind, by grind⟩
    have p29 : FU (0 : Int32) 6 1000 := by
      exact FU.start (by grind) (by decide)
    refine s_X7_runs_L399 M5 hM5 p1 p26 1000 (0 : Int32) (0 : Int32) _ p29 ⟨by decide, by decide⟩ ⟨by decide, by decide⟩ (fun v13 wv13 => ?_)
    have wv13 : (0 : Int32) ≤ v13 ∧ v13 ≤ (1 : Int32) := wv13
    refine ok_ite (fun q30 => ?_) (fun q30 => ?_)
    · have p31 : (101 : Int32) ≤ (119 : Int32) ∧ (119 : Int32) ≤ (122 : Int32) := by
        exact ⟨by grind, by grind⟩
      exact ok_some ⟨hM5, p31⟩
    · have p32 : (101 : Int32) ≤ (111 : Int32) ∧ (111 : Int32) ≤ (122 : Int32) := by
        exact ⟨by grind, by grind⟩
      exact ok_some ⟨hM5, p32⟩
theorem s_X7_sumOf_L7 {A : Nat → Nat → Nat → Prop} {B : SS} (p0 : Int32) (ip0 : (0 : Int32) ≤ p0 ∧ p0 ≤ (40 : Int32)) (M : SS) (hM : IV A B M) : ∀ (n : Nat), ∀ (v4 : Int32) (v5 : Int64) (k2 : (Int64 → Option (Int64))), (FU v4 24 n) → ((0 : Int32) ≤ v4 ∧ v4 ≤ (24 : Int32)) → (∀ (k_0 : Int64), ok (k2 k_0) (fun r => True)) → ok (f_X7_sumOf_L7 p0 M n v4 v5 k2) (fun r => True) := by
  intro n
  induction n with
  | zero =>
    intro v4 v5 k2 hF iv4 hk
    exact (FU.stop hF (show v4 ≤ (24 : Int32) by grind)).elim
  | succ n ih =>
    intro v4 v5 k2 hF iv4 hk
    rw [f_X7_sumOf_L7]
    refine ok_gd ?_ (fun g1 => ?_)
    · exact vp_of (by decide) (by grind) (show p0 < (41 : Int32) by grind)
    have g1 := vp_to (by decide) g1
    have g1 : (0 : Int32) ≤ p0 ∧ p0 < (41 : Int32) := g1
    refine ok_ite (fun q2 => ?_) (fun q2 => ?_)
    · exact hk v5
    · refine ok_gd ?_ (fun g3 => ?_)
      · have c4 : (0 : Int32) ≤ (M.1 29 0 (p0).toNatClampNeg) ∧ (M.1 29 0 (p0).toNatClampNeg) ≤ (24 : Int32) := hM.at1 29 0 ((p0).toNatClampNeg)
        exact vp_of (by decide) (by grind) (show (((24 : Int32) * p0) + v4) < (984 : Int32) by grind)
      have g3 := vp_to (by decide) g3
      have g3 : (0 : Int32) ≤ (((24 : Int32) * p0) + v4) ∧ (((24 : Int32) * p0) + v4) < (984 : Int32) := g3
      refine ok_gd ?_ (fun g5 => ?_)
      · have c6 : (0 : Int32) ≤ (M.1 29 0 (p0).toNatClampNeg) ∧ (M.1 29 0 (p0).toNatClampNeg) ≤ (24 : Int32) := hM.at1 29 0 ((p0).toNatClampNeg)
        exact vp_of (by decide) (by grind) (show (((24 : Int32) * p0) + v4) < (984 : Int32) by grind)
      have g5 := vp_to (by decide) g5
      have g5 : (0 : Int32) ≤ (((24 : Int32) * p0) + v4) ∧ (((24 : Int32) * p0) + v4) < (984 : Int32) := g5
      refine ok_lq (fun v10 e7 => ?_)
      have p8 : FU (v4 + (1 : Int32)) 24 _ := by
        have c9 : (0 : Int32) ≤ (M.1 29 0 (p0).toNatClampNeg) ∧ (M.1 29 0 (p0).toNatClampNeg) ≤ (24 : Int32) := hM.at1 29 0 ((p0).toNatClampNeg)
        exact FU.step hF (by grind)
      have p10 : (0 : Int32) ≤ (v4 + (1 : Int32)) ∧ (v4 + (1 : Int32)) ≤ (24 : Int32) := by
        have c11 : (0 : Int32) ≤ (M.1 29 0 (p0).toNatClampNeg) ∧ (M.1 29 0 (p0).toNatClampNeg) ≤ (24 : Int32) := hM.at1 29 0 ((p0).toNatClampNeg)
        exact ⟨by grind, by grind⟩
      exact ih (v4 + (1 : Int32)) v10 k2 p8 p10 hk
theorem s_X7_sumOf {A : Nat → Nat → Nat → Prop} {B : SS} (M : SS) (hM : IV A B M) (p0 : Int32) (ip0 : (0 : Int32) ≤ p0 ∧ p0 ≤ (40 : Int32)) : ok (f_X7_sumOf M p0) (fun r => True) := by
  unfold f_X7_sumOf
  refine ok_lq (fun v1 e1 => ?_)
  have p2 : (0 : Int32) ≤ p0 ∧ p0 ≤ (40 : Int32) := by
    exact ⟨by grind, by grind⟩
  have p3 : FU (0 : Int32) 24 1000 := by
    exact FU.start (by grind) (by decide)
  refine s_X7_sumOf_L7 p0 p2 M hM 1000 (0 : Int32) v1 _ p3 ⟨by decide, by decide⟩ (fun v3 => ?_)
  exact ok_some trivial
theorem s_X7_isKata {A : Nat → Nat → Nat → Prop} {B : SS} (M : SS) (hM : IV A B M) (p0 : Int32) : ok (f_X7_isKata M p0) (fun r => (0 : Int32) ≤ r ∧ r ≤ (1 : Int32) ∧ ((r = 0 ∧ (p0 < 0 ∨ (M.1 26 0 3) ≤ p0)) ∨ (r = 1 ∧ 0 ≤ p0 ∧ p0 < (M.1 26 0 3)))) := by
  unfold f_X7_isKata
  have p1 : ((-1) : Int32) ≤ ((M.1 26 0 3) - (1 : Int32)) ∧ ((M.1 26 0 3) - (1 : Int32)) ≤ (999 : Int32) := by
    have c2 : (0 : Int32) ≤ (M.1 26 0 3) ∧ (M.1 26 0 3) ≤ (8 : Int32) := hM.at1 26 0 3
    exact ⟨by grind, by grind⟩
  refine ok_b0 (s_X7_in p0 (0 : Int32) ⟨by decide, by decide⟩ ((M.1 26 0 3) - (1 : Int32)) p1) (fun v1 w3 => ?_)
  have w4 : (0 : Int32) ≤ v1 ∧ v1 ≤ (1 : Int32) ∧ ((v1 = 0 ∧ (p0 < (0 : Int32) ∨ ((M.1 26 0 3) - (1 : Int32)) < p0)) ∨ (v1 = 1 ∧ (0 : Int32) ≤ p0 ∧ p0 ≤ ((M.1 26 0 3) - (1 : Int32)))) := w3
  refine ok_gd ?_ (fun g5 => ?_)
  · exact okz_of (by grind) (by grind)
  have p6 : (0 : Int32) ≤ v1 ∧ v1 ≤ (1 : Int32) ∧ ((v1 = 0 ∧ (p0 < 0 ∨ (M.1 26 0 3) ≤ p0)) ∨ (v1 = 1 ∧ 0 ≤ p0 ∧ p0 < (M.1 26 0 3))) := by
    have c7 : (0 : Int32) ≤ (M.1 26 0 3) ∧ (M.1 26 0 3) ≤ (8 : Int32) := hM.at1 26 0 3
    grind
  exact ok_some p6
theorem s_X7_isTest {A : Nat → Nat → Nat → Prop} {B : SS} (M : SS) (hM : IV A B M) (p0 : Int32) (p1 : Int32) : ok (f_X7_isTest M p0 p1) (fun r => (0 : Int32) ≤ r ∧ r ≤ (1 : Int32) ∧ ((r = 0 ∧ ((p0 < 0 ∨ (M.1 26 0 3) ≤ p0) ∨ p1 < 0 ∨ (M.1 33 0 (p0).toNatClampNeg) ≤ p1)) ∨ (r = 1 ∧ 0 ≤ p0 ∧ p0 < (M.1 26 0 3) ∧ 0 ≤ p1 ∧ p1 < (M.1 33 0 (p0).toNatClampNeg)))) := by
  unfold f_X7_isTest
  refine ok_b0 (s_X7_isKata M hM p0) (fun v1 w1 => ?_)
  have w2 : (0 : Int32) ≤ v1 ∧ v1 ≤ (1 : Int32) ∧ ((v1 = 0 ∧ (p0 < 0 ∨ (M.1 26 0 3) ≤ p0)) ∨ (v1 = 1 ∧ 0 ≤ p0 ∧ p0 < (M.1 26 0 3))) := w1
  refine ok_ite (fun q3 => ?_) (fun q3 => ?_)
  · have p4 : (0 : Int32) ≤ (0 : Int32) ∧ (0 : Int32) ≤ (1 : Int32) ∧ (((0 : Int32) = 0 ∧ ((p0 < 0 ∨ (M.1 26 0 3) ≤ p0) ∨ p1 < 0 ∨ (M.1 33 0 (p0).toNatClampNeg) ≤ p1)) ∨ ((0 : Int32) = 1 ∧ 0 ≤ p0 ∧ p0 < (M.1 26 0 3) ∧ 0 ≤ p1 ∧ p1 < (M.1 33 0 (p0).toNatClampNeg))) := by
      have c5 : (0 : Int32) ≤ (M.1 26 0 3) ∧ (M.1 26 0 3) ≤ (8 : Int32) := hM.at1 26 0 3
      have c6 : (0 : Int32) ≤ (M.1 33 0 (p0).toNatClampNeg) ∧ (M.1 33 0 (p0).toNatClampNeg) ≤ (5 : Int32) := hM.at1 33 0 ((p0).toNatClampNeg)
      grind
    exact ok_some p4
  · refine ok_gd ?_ (fun g7 => ?_)
    · exact vp_of (by decide) (by grind) (show p0 < (8 : Int32) by grind)
    have g7 := vp_to (by decide) g7
    have g7 : (0 : Int32) ≤ p0 ∧ p0 < (8 : Int32) := g7
    have p8 : ((-1) : Int32) ≤ ((M.1 33 0 (p0).toNatClampNeg) - (1 : Int32)) ∧ ((M.1 33 0 (p0).toNatClampNeg) - (1 : Int32)) ≤ (999 : Int32) := by
      have c9 : (0 : Int32) ≤ (M.1 33 0 (p0).toNatClampNeg) ∧ (M.1 33 0 (p0).toNatClampNeg) ≤ (5 : Int32) := hM.at1 33 0 ((p0).toNatClampNeg)
      exact ⟨by grind, by grind⟩
    refine ok_b0 (s_X7_in p1 (0 : Int32) ⟨by decide, by decide⟩ ((M.1 33 0 (p0).toNatClampNeg) - (1 : Int32)) p8) (fun v5 w10 => ?_)
    have w11 : (0 : Int32) ≤ v5 ∧ v5 ≤ (1 : Int32) ∧ ((v5 = 0 ∧ ((0 : Int32) < (0 : Int32) ∨ ((M.1 33 0 (p0).toNatClampNeg) - (1 : Int32)) < (0 : Int32))) ∨ (v5 = 1 ∧ (0 : Int32) ≤ (0 : Int32) ∧ (0 : Int32) ≤ ((M.1 33 0 (p0).toNatClampNeg) - (1 : Int32)))) := w10
    refine ok_ite (fun q12 => ?_) (fun q12 => ?_)
    · have p13 : (0 : Int32) ≤ (0 : Int32) ∧ (0 : Int32) ≤ (1 : Int32) ∧ (((0 : Int32) = 0 ∧ ((p0 < 0 ∨ (M.1 26 0 3) ≤ p0) ∨ p1 < 0 ∨ (M.1 33 0 (p0).toNatClampNeg) ≤ p1)) ∨ ((0 : Int32) = 1 ∧ 0 ≤ p0 ∧ p0 < (M.1 26 0 3) ∧ 0 ≤ p1 ∧ p1 < (M.1 33 0 (p0).toNatClampNeg))) := by
        have c14 : (0 : Int32) ≤ (M.1 26 0 3) ∧ (M.1 26 0 3) ≤ (8 : Int32) := hM.at1 26 0 3
        have c15 : (0 : Int32) ≤ (M.1 33 0 (p0).toNatClampNeg) ∧ (M.1 33 0 (p0).toNatClampNeg) ≤ (5 : Int32) := hM.at1 33 0 ((p0).toNatClampNeg)
        grind
      exact ok_some p13
    · have p16 : (0 : Int32) ≤ (1 : Int32) ∧ (1 : Int32) ≤ (1 : Int32) ∧ (((1 : Int32) = 0 ∧ ((p0 < 0 ∨ (M.1 26 0 3) ≤ p0) ∨ p1 < 0 ∨ (M.1 33 0 (p0).toNatClampNeg) ≤ p1)) ∨ ((1 : Int32) = 1 ∧ 0 ≤ p0 ∧ p0 < (M.1 26 0 3) ∧ 0 ≤ p1 ∧ p1 < (M.1 33 0 (p0).toNatClampNeg))) := by
        have c17 : (0 : Int32) ≤ (M.1 26 0 3) ∧ (M.1 26 0 3) ≤ (8 : Int32) := hM.at1 26 0 3
        have c18 : (0 : Int32) ≤ (M.1 33 0 (p0).toNatClampNeg) ∧ (M.1 33 0 (p0).toNatClampNeg) ≤ (5 : Int32) := hM.at1 33 0 ((p0).toNatClampNeg)
        grind
      exact ok_some p16
theorem s_X7_kata {A : Nat → Nat → Nat → Prop} {B : SS} (M : SS) (hM : IV A B M) (p0 : Int32) (a1 : A 26 0 3) (a2 : A 26 0 9) (a3 : ∀ p, A 32 0 p) : ok (f_X7_kata M p0) (fun r => IV A B r.1 ∧ True) := by
  unfold f_X7_kata
  refine ok_b0 (s_X7_in p0 (1 : Int32) ⟨by decide, by decide⟩ (5 : Int32) ⟨by decide, by decide⟩) (fun v1 w1 => ?_)
  have w2 : (0 : Int32) ≤ v1 ∧ v1 ≤ (1 : Int32) ∧ ((v1 = 0 ∧ (p0 < (1 : Int32) ∨ (5 : Int32) < p0)) ∨ (v1 = 1 ∧ (1 : Int32) ≤ p0 ∧ p0 ≤ (5 : Int32))) := w1
  refine ok_ite (fun q3 => ?_) (fun q3 => ?_)
  · refine ok_b1 (s_X7_fails M hM (1 : Int32) ⟨by decide, by decide⟩ (a2)) (fun M15 v14 w4 => ?_)
    have hM15 : IV A B M15 := w4.1
    have w5 : (0 : Int32) ≤ v14 ∧ v14 ≤ (0 : Int32) := w4.2
    exact ok_some ⟨hM15, trivial⟩
  · refine ok_ite (fun q6 => ?_) (fun q6 => ?_)
    · refine ok_b1 (s_X7_fails M hM (2 : Int32) ⟨by decide, by decide⟩ (a2)) (fun M12 v11 w7 => ?_)
      have hM12 : IV A B M12 := w7.1
      have w8 : (0 : Int32) ≤ v11 ∧ v11 ≤ (0 : Int32) := w7.2
      exact ok_some ⟨hM12, trivial⟩
    · refine ok_gd ?_ (fun g9 => ?_)
      · have c10 : (0 : Int32) ≤ (M.1 26 0 3) ∧ (M.1 26 0 3) ≤ (8 : Int32) := hM.at1 26 0 3
        exact vp_of (by decide) (by grind) (show (M.1 26 0 3) < (8 : Int32) by grind)
      have g9 := vp_to (by decide) g9
      have g9 : (0 : Int32) ≤ (M.1 26 0 3) ∧ (M.1 26 0 3) < (8 : Int32) := g9
      refine ok_lq (fun M6 e11 => ?_)
      have p12 : (0 : Int32) ≤ p0 ∧ p0 ≤ (5 : Int32) := by
        exact ⟨by grind, by grind⟩
      have hM6 : IV A B M6 := by rw [e11]; exact hM.u1 rfl (a3 (((M.1 26 0 3)).toNatClampNeg)) p12
      refine ok_lq (fun M7 e13 => ?_)
      have p14 : (0 : Int32) ≤ ((M6.1 26 0 3) + (1 : Int32)) ∧ ((M6.1 26 0 3) + (1 : Int32)) ≤ (8 : Int32) := by
        have c15 : (0 : Int32) ≤ (M6.1 26 0 3) ∧ (M6.1 26 0 3) ≤ (8 : Int32) := hM6.at1 26 0 3
        have c16 : (M6.1 26 0 3) = (M.1 26 0 3) := by rw [e11]; exact up_k (by decide)
        have c17 : (0 : Int32) ≤ (M.1 26 0 3) ∧ (M.1 26 0 3) ≤ (8 : Int32) := hM.at1 26 0 3
        exact ⟨by grind, by grind⟩
      have hM7 : IV A B M7 := by rw [e13]; exact hM6.u1 rfl (a1) p14
      refine ok_b1 (s_X7_tells M7 hM7 ((M7.1 26 0 3) - (1 : Int32)) (a2)) (fun M9 v8 w18 => ?_)
      have hM9 : IV A B M9 := w18.1
      exact ok_some ⟨hM9, trivial⟩
theorem s_X7_passes_L5 {A : Nat → Nat → Nat → Prop} {B : SS} (p1 : Int32) (ip1 : (0 : Int32) ≤ p1 ∧ p1 ≤ (7 : Int32)) (p0 : Int32) (ip0 : (0 : Int32) ≤ p0 ∧ p0 ≤ (40 : Int32)) (a1 : A 26 0 38) (a2 : A 26 0 39) (a3 : A 26 0 40) (a4 : ∀ p, A 53 0 p) (a5 : ∀ p, A 54 0 p) : ∀ (n : Nat), ∀ (v4 : Int32) (v5 : Int32) (M6 : SS) (k1 : (Int32 → SS → Option (SS × Int32))), (FU v4 5 n) → ((0 : Int32) ≤ v4 ∧ v4 ≤ (5 : Int32)) → ((0 : Int32) ≤ v5 ∧ v5 ≤ (1 : Int32)) → (IV A B M6) → (∀ (k_0 : Int32) (k_1 : SS), ((0 : Int32) ≤ k_0 ∧ k_0 ≤ (1 : Int32)) → (IV A B k_1) → ok (k1 k_0 k_1) (fun r => IV A B r.1 ∧ (0 : Int32) ≤ r.2 ∧ r.2 ≤ (1 : Int32))) → ok (f_X7_passes_L5 p1 p0 n v4 v5 M6 k1) (fun r => IV A B r.1 ∧ (0 : Int32) ≤ r.2 ∧ r.2 ≤ (1 : Int32)) := by
  intro n
  induction n with
  | zero =>
    intro v4 v5 M6 k1 hF iv4 iv5 hM6 hk
    exact (FU.stop hF (show v4 ≤ (5 : Int32) by grind)).elim
  | succ n ih =>
    intro v4 v5 M6 k1 hF iv4 iv5 hM6 hk
    rw [f_X7_passes_L5]
    refine ok_gd ?_ (fun g1 => ?_)
    · exact vp_of (by decide) (by grind) (show p1 < (8 : Int32) by grind)
    have g1 := vp_to (by decide) g1
    have g1 : (0 : Int32) ≤ p1 ∧ p1 < (8 : Int32) := g1
    refine ok_ite (fun q2 => ?_) (fun q2 => ?_)
    · have p3 : (0 : Int32) ≤ v5 ∧ v5 ≤ (1 : Int32) := by
        exact ⟨by grind, by grind⟩
      exact hk v5 M6 p3 hM6
    · refine ok_ite (fun q4 => ?_) (fun q4 => ?_)
      · have p5 : (0 : Int32) ≤ v5 ∧ v5 ≤ (1 : Int32) := by
          exact ⟨by grind, by grind⟩
        exact hk v5 M6 p5 hM6
      · have p6 : (0 : Int32) ≤ p0 ∧ p0 ≤ (40 : Int32) := by
          exact ⟨by grind, by grind⟩
        have p7 : (0 : Int32) ≤ (((5 : Int32) * p1) + v4) ∧ (((5 : Int32) * p1) + v4) ≤ (39 : Int32) := by
          have c8 : (0 : Int32) ≤ (M6.1 33 0 (p1).toNatClampNeg) ∧ (M6.1 33 0 (p1).toNatClampNeg) ≤ (5 : Int32) := hM6.at1 33 0 ((p1).toNatClampNeg)
          exact ⟨by grind, by grind⟩
        refine ok_b1 (s_X7_runs M6 hM6 p0 p6 (((5 : Int32) * p1) + v4) p7 (a1) (a2) (a3) (fun p => a4 p) (fun p => a5 p)) (fun M12 v11 w9 => ?_)
        have hM12 : IV A B M12 := w9.1
        have w10 : (101 : Int32) ≤ v11 ∧ v11 ≤ (122 : Int32) := w9.2
        refine ok_ite (fun q11 => ?_) (fun q11 => ?_)
        · have p12 : FU (v4 + (1 : Int32)) 5 _ := by
            have c13 : (0 : Int32) ≤ (M6.1 33 0 (p1).toNatClampNeg) ∧ (M6.1 33 0 (p1).toNatClampNeg) ≤ (5 : Int32) := hM6.at1 33 0 ((p1).toNatClampNeg)
            exact FU.step hF (by grind)
          have p14 : (0 : Int32) ≤ (v4 + (1 : Int32)) ∧ (v4 + (1 : Int32)) ≤ (5 : Int32) := by
            have c15 : (0 : Int32) ≤ (M6.1 33 0 (p1).toNatClampNeg) ∧ (M6.1 33 0 (p1).toNatClampNeg) ≤ (5 : Int32) := hM6.at1 33 0 ((p1).toNatClampNeg)
            exact ⟨by grind, by grind⟩
          exact ih (v4 + (1 : Int32)) (1 : Int32) M12 k1 p12 p14 ⟨by decide, by decide⟩ hM12 hk
        · have p16 : FU (v4 + (1 : Int32)) 5 _ := by
            have c17 : (0 : Int32) ≤ (M6.1 33 0 (p1).toNatClampNeg) ∧ (M6.1 33 0 (p1).toNatClampNeg) ≤ (5 : Int32) := hM6.at1 33 0 ((p1).toNatClampNeg)
            exact FU.step hF (by grind)
          have p18 : (0 : Int32) ≤ (v4 + (1 : Int32)) ∧ (v4 + (1 : Int32)) ≤ (5 : Int32) := by
            have c19 : (0 : Int32) ≤ (M6.1 33 0 (p1).toNatClampNeg) ∧ (M6.1 33 0 (p1).toNatClampNeg) ≤ (5 : Int32) := hM6.at1 33 0 ((p1).toNatClampNeg)
            exact ⟨by grind, by grind⟩
          exact ih (v4 + (1 : Int32)) (0 : Int32) M12 k1 p16 p18 ⟨by decide, by decide⟩ hM12 hk
theorem s_X7_passes {A : Nat → Nat → Nat → Prop} {B : SS} (M : SS) (hM : IV A B M) (p0 : Int32) (ip0 : (0 : Int32) ≤ p0 ∧ p0 ≤ (40 : Int32)) (p1 : Int32) (ip1 : (0 : Int32) ≤ p1 ∧ p1 ≤ (7 : Int32)) (a1 : A 26 0 38) (a2 : A 26 0 39) (a3 : A 26 0 40) (a4 : ∀ p, A 53 0 p) (a5 : ∀ p, A 54 0 p) : ok (f_X7_passes M p0 p1) (fun r => IV A B r.1 ∧ (0 : Int32) ≤ r.2 ∧ r.2 ≤ (1 : Int32)) := by
  unfold f_X7_passes
  have p1 : (0 : Int32) ≤ p1 ∧ p1 ≤ (7 : Int32) := by
    exact ⟨by grind, by grind⟩
  have p2 : (0 : Int32) ≤ p0 ∧ p0 ≤ (40 : Int32) := by
    exact ⟨by grind, by grind⟩
  have p3 : FU (0 : Int32) 5 1000 := by
    exact FU.start (by grind) (by decide)
  refine s_X7_passes_L5 p1 p1 p0 p2 (a1) (a2) (a3) (fun p => a4 p) (fun p => a5 p) 1000 (0 : Int32) (1 : Int32) M _ p3 ⟨by decide, by decide⟩ ⟨by decide, by decide⟩ hM (fun v2 M3 wv2 hM3 => ?_)
  have wv2 : (0 : Int32) ≤ v2 ∧ v2 ≤ (1 : Int32) := wv2
  refine ok_gd ?_ (fun g4 => ?_)
  · exact okz_of (by grind) (by grind)
  have p5 : (0 : Int32) ≤ v2 ∧ v2 ≤ (1 : Int32) := by
    exact ⟨by grind, by grind⟩
  exact ok_some ⟨hM3, p5⟩
theorem s_X7_puts_J190 {A : Nat → Nat → Nat → Prop} {B : SS} {n : Nat} (rc : Int32 → Int32 → SS → (Int32 → SS → Option (SS × Int32)) → Option (SS × Int32)) (hrc : ∀ (v25 : Int32) (v26 : Int32) (M27 : SS) (k22 : (Int32 → SS → Option (SS × Int32))), (FU v25 40 n) → ((0 : Int32) ≤ v25 ∧ v25 ≤ (40 : Int32)) → (IV A B M27) → (∀ (k_0 : Int32) (k_1 : SS), (IV A B k_1) → ok (k22 k_0 k_1) (fun r => IV A B r.1 ∧ True)) → ok (rc v25 v26 M27 k22) (fun r => IV A B r.1 ∧ True)) (k22 : Int32 → SS → Option (SS × Int32)) (hk : ∀ (k_0 : Int32) (k_1 : SS), (IV A B k_1) → ok (k22 k_0 k_1) (fun r => IV A B r.1 ∧ True)) (v25 : Int32) (iv25 : (0 : Int32) ≤ v25 ∧ v25 ≤ (39 : Int32)) (M34 : SS) (hM34 : IV A B M34) (v26 : Int32) (v36 : Int32) (iv36 : (102 : Int32) ≤ v36 ∧ v36 ≤ (115 : Int32)) (a1 : A 42 0 (v25).toNatClampNeg) (hF : FU v25 40 (n + 1)) : ok (f_X7_puts_J190 rc k22 v25 M34 v26 v36) (fun r => IV A B r.1 ∧ True) := by
  unfold f_X7_puts_J190
  refine ok_gd ?_ (fun g1 => ?_)
  · exact vp_of (by decide) (by grind) (show v25 < (40 : Int32) by grind)
  have g1 := vp_to (by decide) g1
  have g1 : (0 : Int32) ≤ v25 ∧ v25 < (40 : Int32) := g1
  refine ok_ite (fun q2 => ?_) (fun q2 => ?_)
  · refine ok_lq (fun v43 e3 => ?_)
    refine ok_gd ?_ (fun g4 => ?_)
    · have c5 : (0 : Int32) ≤ (M34.1 42 0 (v25).toNatClampNeg) ∧ (M34.1 42 0 (v25).toNatClampNeg) ≤ (65535 : Int32) := hM34.at1 42 0 ((v25).toNatClampNeg)
      exact vp_of (by decide) (by grind) (show v25 < (40 : Int32) by grind)
    have g4 := vp_to (by decide) g4
    have g4 : (0 : Int32) ≤ v25 ∧ v25 < (40 : Int32) := g4
    refine ok_lq (fun M45 e6 => ?_)
    have p7 : (0 : Int32) ≤ (vp_nar .char v36) ∧ (vp_nar .char v36) ≤ (65535 : Int32) := by
      have c8 : (0 : Int32) ≤ (vp_nar .char v36) ∧ (vp_nar .char v36) ≤ (65535 : Int32) := nar_c _
      have c9 : (0 : Int32) ≤ (M34.1 42 0 (v25).toNatClampNeg) ∧ (M34.1 42 0 (v25).toNatClampNeg) ≤ (65535 : Int32) := hM34.at1 42 0 ((v25).toNatClampNeg)
      exact ⟨by grind, by grind⟩
    have hM45 : IV A B M45 := by rw [e6]; exact hM34.u1 rfl (a1) p7
    have p10 : FU (v25 + (1 : Int32)) 40 _ := by
      have c11 : (0 : Int32) ≤ (M34.1 42 0 (v25).toNatClampNeg) ∧ (M34.1 42 0 (v25).toNatClampNeg) ≤ (65535 : Int32) := hM34.at1 42 0 ((v25).toNatClampNeg)
      exact FU.step hF (by grind)
    have p12 : (0 : Int32) ≤ (v25 + (1 : Int32)) ∧ (v25 + (1 : Int32)) ≤ (40 : Int32) := by
      have c13 : (0 : Int32) ≤ (M34.1 42 0 (v25).toNatClampNeg) ∧ (M34.1 42 0 (v25).toNatClampNeg) ≤ (65535 : Int32) := hM34.at1 42 0 ((v25).toNatClampNeg)
      exact ⟨by grind, by grind⟩
    exact hrc (v25 + (1 : Int32)) v43 M45 k22 p10 p12 hM45 hk
  · refine ok_lq (fun v40 e14 => ?_)
    refine ok_gd ?_ (fun g15 => ?_)
    · have c16 : (0 : Int32) ≤ (M34.1 42 0 (v25).toNatClampNeg) ∧ (M34.1 42 0 (v25).toNatClampNeg) ≤ (65535 : Int32) := hM34.at1 42 0 ((v25).toNatClampNeg)
      exact vp_of (by decide) (by grind) (show v25 < (40 : Int32) by grind)
    have g15 := vp_to (by decide) g15
    have g15 : (0 : Int32) ≤ v25 ∧ v25 < (40 : Int32) := g15
    refine ok_lq (fun M42 e17 => ?_)
    have p18 : (0 : Int32) ≤ (vp_nar .char v36) ∧ (vp_nar .char v36) ≤ (65535 : Int32) := by
      have c19 : (0 : Int32) ≤ (vp_nar .char v36) ∧ (vp_nar .char v36) ≤ (65535 : Int32) := nar_c _
      have c20 : (0 : Int32) ≤ (M34.1 42 0 (v25).toNatClampNeg) ∧ (M34.1 42 0 (v25).toNatClampNeg) ≤ (65535 : Int32) := hM34.at1 42 0 ((v25).toNatClampNeg)
      exact ⟨by grind, by grind⟩
    have hM42 : IV A B M42 := by rw [e17]; exact hM34.u1 rfl (a1) p18
    have p21 : FU (v25 + (1 : Int32)) 40 _ := by
      have c22 : (0 : Int32) ≤ (M34.1 42 0 (v25).toNatClampNeg) ∧ (M34.1 42 0 (v25).toNatClampNeg) ≤ (65535 : Int32) := hM34.at1 42 0 ((v25).toNatClampNeg)
      exact FU.step hF (by grind)
    have p23 : (0 : Int32) ≤ (v25 + (1 : Int32)) ∧ (v25 + (1 : Int32)) ≤ (40 : Int32) := by
      have c24 : (0 : Int32) ≤ (M34.1 42 0 (v25).toNatClampNeg) ∧ (M34.1 42 0 (v25).toNatClampNeg) ≤ (65535 : Int32) := hM34.at1 42 0 ((v25).toNatClampNeg)
      exact ⟨by grind, by grind⟩
    exact hrc (v25 + (1 : Int32)) v40 M42 k22 p21 p23 hM42 hk
theorem s_X7_puts_L140 {A : Nat → Nat → Nat → Prop} {B : SS} (p0 : Int32) (ip0 : (0 : Int32) ≤ p0 ∧ p0 ≤ (7 : Int32)) (a1 : A 26 0 38) (a2 : A 26 0 39) (a3 : A 26 0 40) (a4 : ∀ p, A 42 0 p) (a5 : ∀ p, A 53 0 p) (a6 : ∀ p, A 54 0 p) : ∀ (n : Nat), ∀ (v25 : Int32) (v26 : Int32) (M27 : SS) (k22 : (Int32 → SS → Option (SS × Int32))), (FU v25 40 n) → ((0 : Int32) ≤ v25 ∧ v25 ≤ (40 : Int32)) → (IV A B M27) → (∀ (k_0 : Int32) (k_1 : SS), (IV A B k_1) → ok (k22 k_0 k_1) (fun r => IV A B r.1 ∧ True)) → ok (f_X7_puts_L140 p0 n v25 v26 M27 k22) (fun r => IV A B r.1 ∧ True) := by
  intro n
  induction n with
  | zero =>
    intro v25 v26 M27 k22 hF iv25 hM27 hk
    exact (FU.stop hF (show v25 ≤ (40 : Int32) by grind)).elim
  | succ n ih =>
    intro v25 v26 M27 k22 hF iv25 hM27 hk
    rw [f_X7_puts_L140]
    refine ok_ite (fun q1 => ?_) (fun q1 => ?_)
    · exact hk v26 M27 hM27
    · refine ok_gd ?_ (fun g2 => ?_)
      · have c3 : (0 : Int32) ≤ (M27.1 26 0 5) ∧ (M27.1 26 0 5) ≤ (40 : Int32) := hM27.at1 26 0 5
        exact vp_of (by decide) (by grind) (show v25 < (40 : Int32) by grind)
      have g2 := vp_to (by decide) g2
      have g2 : (0 : Int32) ≤ v25 ∧ v25 < (40 : Int32) := g2
      refine ok_ite (fun q4 => ?_) (fun q4 => ?_)
      · have p5 : FU (v25 + (1 : Int32)) 40 _ := by
          have c6 : (0 : Int32) ≤ (M27.1 26 0 5) ∧ (M27.1 26 0 5) ≤ (40 : Int32) := hM27.at1 26 0 5
          have c7 : (0 : Int32) ≤ (M27.1 43 0 (v25).toNatClampNeg) ∧ (M27.1 43 0 (v25).toNatClampNeg) ≤ (1 : Int32) := hM27.at1 43 0 ((v25).toNatClampNeg)
          exact FU.step hF (by grind)
        have p8 : (0 : Int32) ≤ (v25 + (1 : Int32)) ∧ (v25 + (1 : Int32)) ≤ (40 : Int32) := by
          have c9 : (0 : Int32) ≤ (M27.1 26 0 5) ∧ (M27.1 26 0 5) ≤ (40 : Int32) := hM27.at1 26 0 5
          have c10 : (0 : Int32) ≤ (M27.1 43 0 (v25).toNatClampNeg) ∧ (M27.1 43 0 (v25).toNatClampNeg) ≤ (1 : Int32) := hM27.at1 43 0 ((v25).toNatClampNeg)
          exact ⟨by grind, by grind⟩
        exact ih (v25 + (1 : Int32)) v26 M27 k22 p5 p8 hM27 hk
      · refine ok_gd ?_ (fun g11 => ?_)
        · have c12 : (0 : Int32) ≤ (M27.1 26 0 5) ∧ (M27.1 26 0 5) ≤ (40 : Int32) := hM27.at1 26 0 5
          have c13 : (0 : Int32) ≤ (M27.1 43 0 (v25).toNatClampNeg) ∧ (M27.1 43 0 (v25).toNatClampNeg) ≤ (1 : Int32) := hM27.at1 43 0 ((v25).toNatClampNeg)
          exact vp_of (by decide) (by grind) (show v25 < (40 : Int32) by grind)
        have g11 := vp_to (by decide) g11
        have g11 : (0 : Int32) ≤ v25 ∧ v25 < (40 : Int32) := g11
        refine ok_ite (fun q14 => ?_) (fun q14 => ?_)
        · have p15 : (0 : Int32) ≤ v25 ∧ v25 ≤ (40 : Int32) := by
            have c16 : (0 : Int32) ≤ (M27.1 26 0 5) ∧ (M27.1 26 0 5) ≤ (40 : Int32) := hM27.at1 26 0 5
            have c17 : (0 : Int32) ≤ (M27.1 43 0 (v25).toNatClampNeg) ∧ (M27.1 43 0 (v25).toNatClampNeg) ≤ (1 : Int32) := hM27.at1 43 0 ((v25).toNatClampNeg)
            have c18 : (0 : Int32) ≤ (M27.1 40 0 (v25).toNatClampNeg) ∧ (M27.1 40 0 (v25).toNatClampNeg) ≤ (7 : Int32) := hM27.at1 40 0 ((v25).toNatClampNeg)
            exact ⟨by grind, by grind⟩
          have p19 : (0 : Int32) ≤ p0 ∧ p0 ≤ (7 : Int32) := by
            have c20 : (0 : Int32) ≤ (M27.1 40 0 (v25).toNatClampNeg) ∧ (M27.1 40 0 (v25).toNatClampNeg) ≤ (7 : Int32) := hM27.at1 40 0 ((v25).toNatClampNeg)
            have c21 : (0 : Int32) ≤ (M27.1 26 0 5) ∧ (M27.1 26 0 5) ≤ (40 : Int32) := hM27.at1 26 0 5
            have c22 : (0 : Int32) ≤ (M27.1 43 0 (v25).toNatClampNeg) ∧ (M27.1 43 0 (v25).toNatClampNeg) ≤ (1 : Int32) := hM27.at1 43 0 ((v25).toNatClampNeg)
            exact ⟨by grind, by grind⟩
          refine ok_b1 (s_X7_passes M27 hM27 v25 p15 p0 p19 (a1) (a2) (a3) (fun p => a5 p) (fun p => a6 p)) (fun M34 v33 w23 => ?_)
          have hM34 : IV A B M34 := w23.1
          have w24 : (0 : Int32) ≤ v33 ∧ v33 ≤ (1 : Int32) := w23.2
          refine ok_ite (fun q25 => ?_) (fun q25 => ?_)
          · have p26 : (0 : Int32) ≤ v25 ∧ v25 ≤ (39 : Int32) := by
              have c27 : (0 : Int32) ≤ (M27.1 26 0 5) ∧ (M27.1 26 0 5) ≤ (40 : Int32) := hM27.at1 26 0 5
              have c28 : (0 : Int32) ≤ (M27.1 43 0 (v25).toNatClampNeg) ∧ (M27.1 43 0 (v25).toNatClampNeg) ≤ (1 : Int32) := hM27.at1 43 0 ((v25).toNatClampNeg)
              have c29 : (0 : Int32) ≤ (M27.1 40 0 (v25).toNatClampNeg) ∧ (M27.1 40 0 (v25).toNatClampNeg) ≤ (7 : Int32) := hM27.at1 40 0 ((v25).toNatClampNeg)
              exact ⟨by grind, by grind⟩
            exact s_X7_puts_J190 (n := _) (f_X7_puts_L140 p0 n) ih k22 hk v25 p26 M34 hM34 v26 (102 : Int32) ⟨by decide, by decide⟩ (a4 ((v25).toNatClampNeg)) hF
          · have p30 : (0 : Int32) ≤ v25 ∧ v25 ≤ (39 : Int32) := by
              have c31 : (0 : Int32) ≤ (M27.1 26 0 5) ∧ (M27.1 26 0 5) ≤ (40 : Int32) := hM27.at1 26 0 5
              have c32 : (0 : Int32) ≤ (M27.1 43 0 (v25).toNatClampNeg) ∧ (M27.1 43 0 (v25).toNatClampNeg) ≤ (1 : Int32) := hM27.at1 43 0 ((v25).toNatClampNeg)
              have c33 : (0 : Int32) ≤ (M27.1 40 0 (v25).toNatClampNeg) ∧ (M27.1 40 0 (v25).toNatClampNeg) ≤ (7 : Int32) := hM27.at1 40 0 ((v25).toNatClampNeg)
              exact ⟨by grind, by grind⟩
            exact s_X7_puts_J190 (n := _) (f_X7_puts_L140 p0 n) ih k22 hk v25 p30 M34 hM34 v26 (115 : Int32) ⟨by decide, by decide⟩ (a4 ((v25).toNatClampNeg)) hF
        · have p34 : FU (v25 + (1 : Int32)) 40 _ := by
            have c35 : (0 : Int32) ≤ (M27.1 26 0 5) ∧ (M27.1 26 0 5) ≤ (40 : Int32) := hM27.at1 26 0 5
            have c36 : (0 : Int32) ≤ (M27.1 43 0 (v25).toNatClampNeg) ∧ (M27.1 43 0 (v25).toNatClampNeg) ≤ (1 : Int32) := hM27.at1 43 0 ((v25).toNatClampNeg)
            have c37 : (0 : Int32) ≤ (M27.1 40 0 (v25).toNatClampNeg) ∧ (M27.1 40 0 (v25).toNatClampNeg) ≤ (7 : Int32) := hM27.at1 40 0 ((v25).toNatClampNeg)
            exact FU.step hF (by grind)
          have p38 : (0 : Int32) ≤ (v25 + (1 : Int32)) ∧ (v25 + (1 : Int32)) ≤ (40 : Int32) := by
            have c39 : (0 : Int32) ≤ (M27.1 26 0 5) ∧ (M27.1 26 0 5) ≤ (40 : Int32) := hM27.at1 26 0 5
            have c40 : (0 : Int32) ≤ (M27.1 43 0 (v25).toNatClampNeg) ∧ (M27.1 43 0 (v25).toNatClampNeg) ≤ (1 : Int32) := hM27.at1 43 0 ((v25).toNatClampNeg)
            have c41 : (0 : Int32) ≤ (M27.1 40 0 (v25).toNatClampNeg) ∧ (M27.1 40 0 (v25).toNatClampNeg) ≤ (7 : Int32) := hM27.at1 40 0 ((v25).toNatClampNeg)
            exact ⟨by grind, by grind⟩
          exact ih (v25 + (1 : Int32)) v26 M27 k22 p34 p38 hM27 hk
theorem s_X7_puts_L65 {A : Nat → Nat → Nat → Prop} {B : SS} (v1 : Int32) (iv1 : (0 : Int32) ≤ v1 ∧ v1 ≤ (39 : Int32)) (a1 : ∀ p, A 37 0 p) : ∀ (n : Nat), ∀ (v12 : Int32) (M13 : SS) (k10 : (SS → Option (SS × Int32))), (FU v12 6 n) → ((0 : Int32) ≤ v12 ∧ v12 ≤ (6 : Int32)) → (IV A B M13) → (∀ (k_0 : SS), (IV A B k_0) → ok (k10 k_0) (fun r => IV A B r.1 ∧ True)) → ok (f_X7_puts_L65 v1 n v12 M13 k10) (fun r => IV A B r.1 ∧ True) := by
  intro n
  induction n with
  | zero =>
    intro v12 M13 k10 hF iv12 hM13 hk
    exact (FU.stop hF (show v12 ≤ (6 : Int32) by grind)).elim
  | succ n ih =>
    intro v12 M13 k10 hF iv12 hM13 hk
    rw [f_X7_puts_L65]
    refine ok_ite (fun q1 => ?_) (fun q1 => ?_)
    · exact hk M13 hM13
    · refine ok_gd ?_ (fun g2 => ?_)
      · have c3 : (0 : Int32) ≤ (M13.1 26 0 2) ∧ (M13.1 26 0 2) ≤ (6 : Int32) := hM13.at1 26 0 2
        exact vp_of (by decide) (by grind) (show v12 < (6 : Int32) by grind)
      have g2 := vp_to (by decide) g2
      have g2 : (0 : Int32) ≤ v12 ∧ v12 < (6 : Int32) := g2
      refine ok_gd ?_ (fun g4 => ?_)
      · have c5 : (0 : Int32) ≤ (M13.1 26 0 2) ∧ (M13.1 26 0 2) ≤ (6 : Int32) := hM13.at1 26 0 2
        exact vp_of (by decide) (by grind) (show (((6 : Int32) * v1) + v12) < (240 : Int32) by grind)
      have g4 := vp_to (by decide) g4
      have g4 : (0 : Int32) ≤ (((6 : Int32) * v1) + v12) ∧ (((6 : Int32) * v1) + v12) < (240 : Int32) := g4
      refine ok_lq (fun M51 e6 => ?_)
      have hM51 : IV A B M51 := by rw [e6]; exact hM13.u1f rfl (a1 (((((6 : Int32) * v1) + v12)).toNatClampNeg)) rfl
      have p7 : FU (v12 + (1 : Int32)) 6 _ := by
        have c8 : (0 : Int32) ≤ (M13.1 26 0 2) ∧ (M13.1 26 0 2) ≤ (6 : Int32) := hM13.at1 26 0 2
        exact FU.step hF (by grind)
      have p9 : (0 : Int32) ≤ (v12 + (1 : Int32)) ∧ (v12 + (1 : Int32)) ≤ (6 : Int32) := by
        have c10 : (0 : Int32) ≤ (M13.1 26 0 2) ∧ (M13.1 26 0 2) ≤ (6 : Int32) := hM13.at1 26 0 2
        exact ⟨by grind, by grind⟩
      exact ih (v12 + (1 : Int32)) M51 k10 p7 p9 hM51 hk
theorem s_X7_puts_L29 {A : Nat → Nat → Nat → Prop} {B : SS} (v1 : Int32) (iv1 : (0 : Int32) ≤ v1 ∧ v1 ≤ (39 : Int32)) (a1 : ∀ p, A 36 0 p) : ∀ (n : Nat), ∀ (v8 : Int32) (M9 : SS) (k6 : (SS → Option (SS × Int32))), (FU v8 4 n) → ((0 : Int32) ≤ v8 ∧ v8 ≤ (4 : Int32)) → (IV A B M9) → (∀ (k_0 : SS), (IV A B k_0) → ok (k6 k_0) (fun r => IV A B r.1 ∧ True)) → ok (f_X7_puts_L29 v1 n v8 M9 k6) (fun r => IV A B r.1 ∧ True) := by
  intro n
  induction n with
  | zero =>
    intro v8 M9 k6 hF iv8 hM9 hk
    exact (FU.stop hF (show v8 ≤ (4 : Int32) by grind)).elim
  | succ n ih =>
    intro v8 M9 k6 hF iv8 hM9 hk
    rw [f_X7_puts_L29]
    refine ok_ite (fun q1 => ?_) (fun q1 => ?_)
    · exact hk M9 hM9
    · refine ok_gd ?_ (fun g2 => ?_)
      · have c3 : (0 : Int32) ≤ (M9.1 26 0 1) ∧ (M9.1 26 0 1) ≤ (4 : Int32) := hM9.at1 26 0 1
        exact vp_of (by decide) (by grind) (show v8 < (4 : Int32) by grind)
      have g2 := vp_to (by decide) g2
      have g2 : (0 : Int32) ≤ v8 ∧ v8 < (4 : Int32) := g2
      refine ok_gd ?_ (fun g4 => ?_)
      · have c5 : (0 : Int32) ≤ (M9.1 26 0 1) ∧ (M9.1 26 0 1) ≤ (4 : Int32) := hM9.at1 26 0 1
        exact vp_of (by decide) (by grind) (show (((4 : Int32) * v1) + v8) < (160 : Int32) by grind)
      have g4 := vp_to (by decide) g4
      have g4 : (0 : Int32) ≤ (((4 : Int32) * v1) + v8) ∧ (((4 : Int32) * v1) + v8) < (160 : Int32) := g4
      refine ok_lq (fun M55 e6 => ?_)
      have hM55 : IV A B M55 := by rw [e6]; exact hM9.u1f rfl (a1 (((((4 : Int32) * v1) + v8)).toNatClampNeg)) rfl
      have p7 : FU (v8 + (1 : Int32)) 4 _ := by
        have c8 : (0 : Int32) ≤ (M9.1 26 0 1) ∧ (M9.1 26 0 1) ≤ (4 : Int32) := hM9.at1 26 0 1
        exact FU.step hF (by grind)
      have p9 : (0 : Int32) ≤ (v8 + (1 : Int32)) ∧ (v8 + (1 : Int32)) ≤ (4 : Int32) := by
        have c10 : (0 : Int32) ≤ (M9.1 26 0 1) ∧ (M9.1 26 0 1) ≤ (4 : Int32) := hM9.at1 26 0 1
        exact ⟨by grind, by grind⟩
      exact ih (v8 + (1 : Int32)) M55 k6 p7 p9 hM55 hk
theorem s_X7_puts {A : Nat → Nat → Nat → Prop} {B : SS} (M : SS) (hM : IV A B M) (p0 : Int32) (ip0 : (0 : Int32) ≤ p0 ∧ p0 ≤ (7 : Int32)) (p1 : Int32) (ip1 : (0 : Int32) ≤ p1 ∧ p1 ≤ (4 : Int32)) (a1 : A 26 0 1) (a2 : A 26 0 2) (a3 : A 26 0 38) (a4 : A 26 0 39) (a5 : A 26 0 40) (a6 : A 26 0 7) (a7 : ∀ p, A 34 0 p) (a8 : ∀ p, A 35 0 p) (a9 : ∀ p, A 36 0 p) (a10 : ∀ p, A 37 0 p) (a11 : ∀ p, A 38 0 p) (a12 : ∀ p, A 42 0 p) (a13 : ∀ p, A 53 0 p) (a14 : ∀ p, A 54 0 p) : ok (f_X7_puts M p0 p1) (fun r => IV A B r.1 ∧ True) := by
  unfold f_X7_puts
  refine ok_lq (fun v1 e1 => ?_)
  refine ok_gd ?_ (fun g2 => ?_)
  · exact vp_of (by decide) (by grind) (show v1 < (40 : Int32) by grind)
  have g2 := vp_to (by decide) g2
  have g2 : (0 : Int32) ≤ v1 ∧ v1 < (40 : Int32) := g2
  refine ok_lq (fun M3 e3 => ?_)
  have p4 : (0 : Int32) ≤ (M.1 26 0 1) ∧ (M.1 26 0 1) ≤ (4 : Int32) := by
    have c5 : (0 : Int32) ≤ (M.1 26 0 1) ∧ (M.1 26 0 1) ≤ (4 : Int32) := hM.at1 26 0 1
    exact ⟨by grind, by grind⟩
  have hM3 : IV A B M3 := by rw [e3]; exact hM.u1 rfl (a7 ((v1).toNatClampNeg)) p4
  refine ok_gd ?_ (fun g6 => ?_)
  · exact vp_of (by decide) (by grind) (show v1 < (40 : Int32) by grind)
  have g6 := vp_to (by decide) g6
  have g6 : (0 : Int32) ≤ v1 ∧ v1 < (40 : Int32) := g6
  refine ok_lq (fun M5 e7 => ?_)
  have p8 : (0 : Int32) ≤ (M3.1 26 0 2) ∧ (M3.1 26 0 2) ≤ (6 : Int32) := by
    have c9 : (0 : Int32) ≤ (M3.1 26 0 2) ∧ (M3.1 26 0 2) ≤ (6 : Int32) := hM3.at1 26 0 2
    have c10 : (M3.1 26 0 2) = (M.1 26 0 2) := by rw [e3]; exact up_k (by decide)
    have c11 : (0 : Int32) ≤ (M.1 26 0 2) ∧ (M.1 26 0 2) ≤ (6 : Int32) := hM.at1 26 0 2
    exact ⟨by grind, by grind⟩
  have hM5 : IV A B M5 := by rw [e7]; exact hM3.u1 rfl (a8 ((v1).toNatClampNeg)) p8
  have p12 : (0 : Int32) ≤ v1 ∧ v1 ≤ (39 : Int32) := by
    exact ⟨by grind, by grind⟩
  have p13 : FU (0 : Int32) 4 1000 := by
    exact FU.start (by grind) (by decide)
  refine s_X7_puts_L29 v1 p12 (fun p => a9 p) 1000 (0 : Int32) M5 _ p13 ⟨by decide, by decide⟩ hM5 (fun M7 hM7 => ?_)
  have p14 : (0 : Int32) ≤ v1 ∧ v1 ≤ (39 : Int32) := by
    exact ⟨by grind, by grind⟩
  have p15 : FU (0 : Int32) 6 1000 := by
    exact FU.start (by grind) (by decide)
  refine s_X7_puts_L65 v1 p14 (fun p => a10 p) 1000 (0 : Int32) M7 _ p15 ⟨by decide, by decide⟩ hM7 (fun M11 hM11 => ?_)
  refine ok_b1 (s_X7_clears M11 hM11 (a1) (a2)) (fun M15 v14 w16 => ?_)
  have hM15 : IV A B M15 := w16.1
  have w17 : (0 : Int32) ≤ v14 ∧ v14 ≤ (10 : Int32) := w16.2
  refine ok_ite (fun q18 => ?_) (fun q18 => ?_)
  · unfold f_X7_puts_J120
    refine ok_lq (fun M19 e19 => ?_)
    have hM19 : IV A B M19 := by rw [e19]; exact hM15.u1f rfl (a6) rfl
    refine ok_gd ?_ (fun g20 => ?_)
    · exact vp_of (by decide) (by grind) (show v1 < (40 : Int32) by grind)
    have g20 := vp_to (by decide) g20
    have g20 : (0 : Int32) ≤ v1 ∧ v1 < (40 : Int32) := g20
    refine ok_lq (fun M21 e21 => ?_)
    have hM21 : IV A B M21 := by rw [e21]; exact hM19.u1f rfl (a11 ((v1).toNatClampNeg)) rfl
    have p22 : (0 : Int32) ≤ p0 ∧ p0 ≤ (7 : Int32) := by
      exact ⟨by grind, by grind⟩
    have p23 : FU (0 : Int32) 40 1000 := by
      exact FU.start (by grind) (by decide)
    refine s_X7_puts_L140 p0 p22 (a3) (a4) (a5) (fun p => a12 p) (fun p => a13 p) (fun p => a14 p) 1000 (0 : Int32) (0 : Int32) M21 _ p23 ⟨by decide, by decide⟩ hM21 (fun v23 M24 hM24 => ?_)
    exact ok_some ⟨hM24, trivial⟩
  · unfold f_X7_puts_J120
    refine ok_lq (fun M19 e24 => ?_)
    have hM19 : IV A B M19 := by rw [e24]; exact hM15.u1f rfl (a6) rfl
    refine ok_gd ?_ (fun g25 => ?_)
    · exact vp_of (by decide) (by grind) (show v1 < (40 : Int32) by grind)
    have g25 := vp_to (by decide) g25
    have g25 : (0 : Int32) ≤ v1 ∧ v1 < (40 : Int32) := g25
    refine ok_lq (fun M21 e26 => ?_)
    have hM21 : IV A B M21 := by rw [e26]; exact hM19.u1f rfl (a11 ((v1).toNatClampNeg)) rfl
    have p27 : (0 : Int32) ≤ p0 ∧ p0 ≤ (7 : Int32) := by
      exact ⟨by grind, by grind⟩
    have p28 : FU (0 : Int32) 40 1000 := by
      exact FU.start (by grind) (by decide)
    refine s_X7_puts_L140 p0 p27 (a3) (a4) (a5) (fun p => a12 p) (fun p => a13 p) (fun p => a14 p) 1000 (0 : Int32) (0 : Int32) M21 _ p28 ⟨by decide, by decide⟩ hM21 (fun v23 M24 hM24 => ?_)
    exact ok_some ⟨hM24, trivial⟩
theorem s_X7_test {A : Nat → Nat → Nat → Prop} {B : SS} (M : SS) (hM : IV A B M) (p0 : Int32) (a1 : A 26 0 1) (a2 : A 26 0 2) (a3 : A 26 0 38) (a4 : A 26 0 39) (a5 : A 26 0 40) (a6 : A 26 0 7) (a7 : A 26 0 9) (a8 : A 33 0 (p0).toNatClampNeg) (a9 : ∀ p, A 34 0 p) (a10 : ∀ p, A 35 0 p) (a11 : ∀ p, A 36 0 p) (a12 : ∀ p, A 37 0 p) (a13 : ∀ p, A 38 0 p) (a14 : ∀ p, A 42 0 p) (a15 : ∀ p, A 53 0 p) (a16 : ∀ p, A 54 0 p) : ok (f_X7_test M p0) (fun r => IV A B r.1 ∧ True) := by
  unfold f_X7_test
  refine ok_b0 (s_X7_isKata M hM p0) (fun v1 w1 => ?_)
  have w2 : (0 : Int32) ≤ v1 ∧ v1 ≤ (1 : Int32) ∧ ((v1 = 0 ∧ (p0 < 0 ∨ (M.1 26 0 3) ≤ p0)) ∨ (v1 = 1 ∧ 0 ≤ p0 ∧ p0 < (M.1 26 0 3))) := w1
  refine ok_ite (fun q3 => ?_) (fun q3 => ?_)
  · refine ok_b1 (s_X7_fails M hM (1 : Int32) ⟨by decide, by decide⟩ (a7)) (fun M20 v19 w4 => ?_)
    have hM20 : IV A B M20 := w4.1
    have w5 : (0 : Int32) ≤ v19 ∧ v19 ≤ (0 : Int32) := w4.2
    exact ok_some ⟨hM20, trivial⟩
  · refine ok_gd ?_ (fun g6 => ?_)
    · exact vp_of (by decide) (by grind) (show p0 < (8 : Int32) by grind)
    have g6 := vp_to (by decide) g6
    have g6 : (0 : Int32) ≤ p0 ∧ p0 < (8 : Int32) := g6
    refine ok_ite (fun q7 => ?_) (fun q7 => ?_)
    · refine ok_b1 (s_X7_fails M hM (2 : Int32) ⟨by decide, by decide⟩ (a7)) (fun M17 v16 w8 => ?_)
      have hM17 : IV A B M17 := w8.1
      have w9 : (0 : Int32) ≤ v16 ∧ v16 ≤ (0 : Int32) := w8.2
      exact ok_some ⟨hM17, trivial⟩
    · refine ok_gd ?_ (fun g10 => ?_)
      · have c11 : (0 : Int32) ≤ (M.1 33 0 (p0).toNatClampNeg) ∧ (M.1 33 0 (p0).toNatClampNeg) ≤ (5 : Int32) := hM.at1 33 0 ((p0).toNatClampNeg)
        exact vp_of (by decide) (by grind) (show p0 < (8 : Int32) by grind)
      have g10 := vp_to (by decide) g10
      have g10 : (0 : Int32) ≤ p0 ∧ p0 < (8 : Int32) := g10
      refine ok_gd ?_ (fun g12 => ?_)
      · have c13 : (0 : Int32) ≤ (M.1 33 0 (p0).toNatClampNeg) ∧ (M.1 33 0 (p0).toNatClampNeg) ≤ (5 : Int32) := hM.at1 33 0 ((p0).toNatClampNeg)
        exact vp_of (by decide) (by grind) (show p0 < (8 : Int32) by grind)
      have g12 := vp_to (by decide) g12
      have g12 : (0 : Int32) ≤ p0 ∧ p0 < (8 : Int32) := g12
      refine ok_lq (fun M8 e14 => ?_)
      have p15 : (0 : Int32) ≤ ((M.1 33 0 (p0).toNatClampNeg) + (1 : Int32)) ∧ ((M.1 33 0 (p0).toNatClampNeg) + (1 : Int32)) ≤ (5 : Int32) := by
        have c16 : (0 : Int32) ≤ (M.1 33 0 (p0).toNatClampNeg) ∧ (M.1 33 0 (p0).toNatClampNeg) ≤ (5 : Int32) := hM.at1 33 0 ((p0).toNatClampNeg)
        exact ⟨by grind, by grind⟩
      have hM8 : IV A B M8 := by rw [e14]; exact hM.u1 rfl (a8) p15
      refine ok_gd ?_ (fun g17 => ?_)
      · have c18 : (0 : Int32) ≤ (M.1 33 0 (p0).toNatClampNeg) ∧ (M.1 33 0 (p0).toNatClampNeg) ≤ (5 : Int32) := hM.at1 33 0 ((p0).toNatClampNeg)
        exact vp_of (by decide) (by grind) (show p0 < (8 : Int32) by grind)
      have g17 := vp_to (by decide) g17
      have g17 : (0 : Int32) ≤ p0 ∧ p0 < (8 : Int32) := g17
      have p19 : (0 : Int32) ≤ p0 ∧ p0 ≤ (7 : Int32) := by
        have c20 : (0 : Int32) ≤ (M.1 33 0 (p0).toNatClampNeg) ∧ (M.1 33 0 (p0).toNatClampNeg) ≤ (5 : Int32) := hM.at1 33 0 ((p0).toNatClampNeg)
        exact ⟨by grind, by grind⟩
      have p21 : (0 : Int32) ≤ ((M8.1 33 0 (p0).toNatClampNeg) - (1 : Int32)) ∧ ((M8.1 33 0 (p0).toNatClampNeg) - (1 : Int32)) ≤ (4 : Int32) := by
        have c22 : (0 : Int32) ≤ (M8.1 33 0 (p0).toNatClampNeg) ∧ (M8.1 33 0 (p0).toNatClampNeg) ≤ (5 : Int32) := hM8.at1 33 0 ((p0).toNatClampNeg)
        have c23 : (M8.1 33 0 (p0).toNatClampNeg) = ((M.1 33 0 (p0).toNatClampNeg) + (1 : Int32)) := by rw [e14]; exact up_s
        have c24 : (0 : Int32) ≤ (M.1 33 0 (p0).toNatClampNeg) ∧ (M.1 33 0 (p0).toNatClampNeg) ≤ (5 : Int32) := hM.at1 33 0 ((p0).toNatClampNeg)
        exact ⟨by grind, by grind⟩
      refine ok_b1 (s_X7_puts M8 hM8 p0 p19 ((M8.1 33 0 (p0).toNatClampNeg) - (1 : Int32)) p21 (a1) (a2) (a3) (a4) (a5) (a6) (fun p => a9 p) (fun p => a10 p) (fun p => a11 p) (fun p => a12 p) (fun p => a13 p) (fun p => a14 p) (fun p => a15 p) (fun p => a16 p)) (fun M11 v10 w25 => ?_)
      have hM11 : IV A B M11 := w25.1
      refine ok_b1 (s_X7_tells M11 hM11 v10 (a7)) (fun M14 v13 w26 => ?_)
      have hM14 : IV A B M14 := w26.1
      exact ok_some ⟨hM14, trivial⟩
theorem s_X7_fix {A : Nat → Nat → Nat → Prop} {B : SS} (M : SS) (hM : IV A B M) (p0 : Int32) (p1 : Int32) (a1 : A 26 0 1) (a2 : A 26 0 2) (a3 : A 26 0 38) (a4 : A 26 0 39) (a5 : A 26 0 40) (a6 : A 26 0 7) (a7 : A 26 0 9) (a8 : ∀ p, A 34 0 p) (a9 : ∀ p, A 35 0 p) (a10 : ∀ p, A 36 0 p) (a11 : ∀ p, A 37 0 p) (a12 : ∀ p, A 38 0 p) (a13 : ∀ p, A 42 0 p) (a14 : ∀ p, A 53 0 p) (a15 : ∀ p, A 54 0 p) : ok (f_X7_fix M p0 p1) (fun r => IV A B r.1 ∧ True) := by
  unfold f_X7_fix
  refine ok_b0 (s_X7_isTest M hM p0 p1) (fun v1 w1 => ?_)
  have w2 : (0 : Int32) ≤ v1 ∧ v1 ≤ (1 : Int32) ∧ ((v1 = 0 ∧ ((p0 < 0 ∨ (M.1 26 0 3) ≤ p0) ∨ p1 < 0 ∨ (M.1 33 0 (p0).toNatClampNeg) ≤ p1)) ∨ (v1 = 1 ∧ 0 ≤ p0 ∧ p0 < (M.1 26 0 3) ∧ 0 ≤ p1 ∧ p1 < (M.1 33 0 (p0).toNatClampNeg))) := w1
  refine ok_ite (fun q3 => ?_) (fun q3 => ?_)
  · refine ok_b1 (s_X7_fails M hM (1 : Int32) ⟨by decide, by decide⟩ (a7)) (fun M5 v4 w4 => ?_)
    have hM5 : IV A B M5 := w4.1
    have w5 : (0 : Int32) ≤ v4 ∧ v4 ≤ (0 : Int32) := w4.2
    exact ok_some ⟨hM5, trivial⟩
  · have p6 : (0 : Int32) ≤ p0 ∧ p0 ≤ (7 : Int32) := by
      have c7 : (0 : Int32) ≤ (M.1 33 0 (p0).toNatClampNeg) ∧ (M.1 33 0 (p0).toNatClampNeg) ≤ (5 : Int32) := hM.at1 33 0 ((p0).toNatClampNeg)
      exact ⟨by grind, by grind⟩
    have p8 : (0 : Int32) ≤ p1 ∧ p1 ≤ (4 : Int32) := by
      exact ⟨by grind, by grind⟩
    refine ok_b1 (s_X7_puts M hM p0 p6 p1 p8 (a1) (a2) (a3) (a4) (a5) (a6) (fun p => a8 p) (fun p => a9 p) (fun p => a10 p) (fun p => a11 p) (fun p => a12 p) (fun p => a13 p) (fun p => a14 p) (fun p => a15 p)) (fun M8 v7 w9 => ?_)
    have hM8 : IV A B M8 := w9.1
    refine ok_b1 (s_X7_tells M8 hM8 v7 (a7)) (fun M11 v10 w10 => ?_)
    have hM11 : IV A B M11 := w10.1
    exact ok_some ⟨hM11, trivial⟩
theorem s_X7_tests {A : Nat → Nat → Nat → Prop} {B : SS} (M : SS) (hM : IV A B M) (p0 : Int32) (a1 : A 26 0 9) : ok (f_X7_tests M p0) (fun r => IV A B r.1 ∧ True) := by
  unfold f_X7_tests
  refine ok_b0 (s_X7_isKata M hM p0) (fun v1 w1 => ?_)
  have w2 : (0 : Int32) ≤ v1 ∧ v1 ≤ (1 : Int32) ∧ ((v1 = 0 ∧ (p0 < 0 ∨ (M.1 26 0 3) ≤ p0)) ∨ (v1 = 1 ∧ 0 ≤ p0 ∧ p0 < (M.1 26 0 3))) := w1
  refine ok_ite (fun q3 => ?_) (fun q3 => ?_)
  · refine ok_b1 (s_X7_fails M hM (1 : Int32) ⟨by decide, by decide⟩ (a1)) (fun M5 v4 w4 => ?_)
    have hM5 : IV A B M5 := w4.1
    have w5 : (0 : Int32) ≤ v4 ∧ v4 ≤ (0 : Int32) := w4.2
    exact ok_some ⟨hM5, trivial⟩
  · refine ok_gd ?_ (fun g6 => ?_)
    · exact vp_of (by decide) (by grind) (show p0 < (8 : Int32) by grind)
    have g6 := vp_to (by decide) g6
    have g6 : (0 : Int32) ≤ p0 ∧ p0 < (8 : Int32) := g6
    refine ok_b1 (s_X7_tells M hM (M.1 33 0 (p0).toNatClampNeg) (a1)) (fun M9 v8 w7 => ?_)
    have hM9 : IV A B M9 := w7.1
    exact ok_some ⟨hM9, trivial⟩
theorem s_X7_run_L84 {A : Nat → Nat → Nat → Prop} {B : SS} (a1 : ∀ p, A 55 0 p) : ∀ (n : Nat), ∀ (v16 : Int32) (M17 : SS) (k14 : (SS → Option (SS × Int32))), (FU v16 6 n) → ((0 : Int32) ≤ v16 ∧ v16 ≤ (6 : Int32)) → (IV A B M17) → (∀ (k_0 : SS), (IV A B k_0) → ok (k14 k_0) (fun r => IV A B r.1 ∧ (0 : Int32) ≤ r.2 ∧ r.2 ≤ (122 : Int32))) → ok (f_X7_run_L84 n v16 M17 k14) (fun r => IV A B r.1 ∧ (0 : Int32) ≤ r.2 ∧ r.2 ≤ (122 : Int32)) := by
  intro n
  induction n with
  | zero =>
    intro v16 M17 k14 hF iv16 hM17 hk
    exact (FU.stop hF (show v16 ≤ (6 : Int32) by grind)).elim
  | succ n ih =>
    intro v16 M17 k14 hF iv16 hM17 hk
    rw [f_X7_run_L84]
    refine ok_ite (fun q1 => ?_) (fun q1 => ?_)
    · exact hk M17 hM17
    · refine ok_gd ?_ (fun g2 => ?_)
      · have c3 : (0 : Int32) ≤ (M17.1 26 0 39) ∧ (M17.1 26 0 39) ≤ (6 : Int32) := hM17.at1 26 0 39
        exact vp_of (by decide) (by grind) (show v16 < (6 : Int32) by grind)
      have g2 := vp_to (by decide) g2
      have g2 : (0 : Int32) ≤ v16 ∧ v16 < (6 : Int32) := g2
      refine ok_gd ?_ (fun g4 => ?_)
      · have c5 : (0 : Int32) ≤ (M17.1 26 0 39) ∧ (M17.1 26 0 39) ≤ (6 : Int32) := hM17.at1 26 0 39
        exact vp_of (by decide) (by grind) (show v16 < (6 : Int32) by grind)
      have g4 := vp_to (by decide) g4
      have g4 : (0 : Int32) ≤ v16 ∧ v16 < (6 : Int32) := g4
      refine ok_lq (fun M22 e6 => ?_)
      have hM22 : IV A B M22 := by rw [e6]; exact hM17.u1f rfl (a1 ((v16).toNatClampNeg)) rfl
      have p7 : FU (v16 + (1 : Int32)) 6 _ := by
        have c8 : (0 : Int32) ≤ (M17.1 26 0 39) ∧ (M17.1 26 0 39) ≤ (6 : Int32) := hM17.at1 26 0 39
        exact FU.step hF (by grind)
      have p9 : (0 : Int32) ≤ (v16 + (1 : Int32)) ∧ (v16 + (1 : Int32)) ≤ (6 : Int32) := by
        have c10 : (0 : Int32) ≤ (M17.1 26 0 39) ∧ (M17.1 26 0 39) ≤ (6 : Int32) := hM17.at1 26 0 39
        exact ⟨by grind, by grind⟩
      exact ih (v16 + (1 : Int32)) M22 k14 p7 p9 hM22 hk
theorem s_X7_run {A : Nat → Nat → Nat → Prop} {B : SS} (M : SS) (hM : IV A B M) (p0 : Int32) (p1 : Int32) (a1 : A 26 0 38) (a2 : A 26 0 39) (a3 : A 26 0 40) (a4 : A 26 0 41) (a5 : A 26 0 42) (a6 : A 26 0 43) (a7 : A 26 0 44) (a8 : A 26 0 9) (a9 : ∀ p, A 53 0 p) (a10 : ∀ p, A 54 0 p) (a11 : ∀ p, A 55 0 p) : ok (f_X7_run M p0 p1) (fun r => IV A B r.1 ∧ (0 : Int32) ≤ r.2 ∧ r.2 ≤ (122 : Int32)) := by
  unfold f_X7_run
  refine ok_b0 (s_X7_isTest M hM p0 p1) (fun v1 w1 => ?_)
  have w2 : (0 : Int32) ≤ v1 ∧ v1 ≤ (1 : Int32) ∧ ((v1 = 0 ∧ ((p0 < 0 ∨ (M.1 26 0 3) ≤ p0) ∨ p1 < 0 ∨ (M.1 33 0 (p0).toNatClampNeg) ≤ p1)) ∨ (v1 = 1 ∧ 0 ≤ p0 ∧ p0 < (M.1 26 0 3) ∧ 0 ≤ p1 ∧ p1 < (M.1 33 0 (p0).toNatClampNeg))) := w1
  refine ok_ite (fun q3 => ?_) (fun q3 => ?_)
  · unfold f_X7_run_J28
    refine ok_lq (fun M5 e4 => ?_)
    have hM5 : IV A B M5 := by rw [e4]; exact hM.u1 rfl (a8) ⟨by decide, by decide⟩
    refine ok_ite (fun q5 => ?_) (fun q5 => ?_)
    · have p6 : (0 : Int32) ≤ (((5 : Int32) * p0) + p1) ∧ (((5 : Int32) * p0) + p1) ≤ (39 : Int32) := by
        have c7 : (0 : Int32) ≤ (M.1 33 0 (p0).toNatClampNeg) ∧ (M.1 33 0 (p0).toNatClampNeg) ≤ (5 : Int32) := hM.at1 33 0 ((p0).toNatClampNeg)
        exact ⟨by grind, by grind⟩
      refine ok_b1 (s_X7_runs M5 hM5 (40 : Int32) ⟨by decide, by decide⟩ (((5 : Int32) * p0) + p1) p6 (a1) (a2) (a3) (fun p => a9 p) (fun p => a10 p)) (fun M8 v7 w8 => ?_)
      have hM8 : IV A B M8 := w8.1
      have w9 : (101 : Int32) ≤ v7 ∧ v7 ≤ (122 : Int32) := w8.2
      refine ok_lq (fun M10 e10 => ?_)
      have hM10 : IV A B M10 := by rw [e10]; exact hM8.u1 rfl (a4) ⟨by decide, by decide⟩
      refine ok_lq (fun M11 e11 => ?_)
      have hM11 : IV A B M11 := by rw [e11]; exact hM10.u1f rfl (a5) rfl
      refine ok_lq (fun M12 e12 => ?_)
      have p13 : (0 : Int32) ≤ (M11.1 26 0 39) ∧ (M11.1 26 0 39) ≤ (6 : Int32) := by
        have c14 : (0 : Int32) ≤ (M11.1 26 0 39) ∧ (M11.1 26 0 39) ≤ (6 : Int32) := hM11.at1 26 0 39
        have c15 : (M11.1 26 0 39) = (M10.1 26 0 39) := by rw [e11]; exact up_p (by decide)
        have c16 : (0 : Int32) ≤ (M10.1 26 0 39) ∧ (M10.1 26 0 39) ≤ (6 : Int32) := hM10.at1 26 0 39
        have c17 : (M10.1 26 0 39) = (M8.1 26 0 39) := by rw [e10]; exact up_p (by decide)
        have c18 : (0 : Int32) ≤ (M8.1 26 0 39) ∧ (M8.1 26 0 39) ≤ (6 : Int32) := hM8.at1 26 0 39
        exact ⟨by grind, by grind⟩
      have hM12 : IV A B M12 := by rw [e12]; exact hM11.u1 rfl (a6) p13
      refine ok_lq (fun M13 e19 => ?_)
      have hM13 : IV A B M13 := by rw [e19]; exact hM12.u1f rfl (a7) rfl
      have p20 : FU (0 : Int32) 6 1000 := by
        exact FU.start (by grind) (by decide)
      refine s_X7_run_L84 (fun p => a11 p) 1000 (0 : Int32) M13 _ p20 ⟨by decide, by decide⟩ hM13 (fun M15 hM15 => ?_)
      refine ok_gd ?_ (fun g21 => ?_)
      · exact okc_of (by grind) (by grind)
      have p22 : (0 : Int32) ≤ v7 ∧ v7 ≤ (122 : Int32) := by
        exact ⟨by grind, by grind⟩
      exact ok_some ⟨hM15, p22⟩
    · have p23 : (0 : Int32) ≤ (0 : Int32) ∧ (0 : Int32) ≤ (122 : Int32) := by
        exact ⟨by grind, by grind⟩
      exact ok_some ⟨hM5, p23⟩
  · refine ok_b0 (s_X7_isWhole M hM (40 : Int32) ⟨by decide, by decide⟩) (fun v24 w24 => ?_)
    have w25 : (0 : Int32) ≤ v24 ∧ v24 ≤ (1 : Int32) := w24
    refine ok_ite (fun q26 => ?_) (fun q26 => ?_)
    · unfold f_X7_run_J28
      refine ok_lq (fun M5 e27 => ?_)
      have hM5 : IV A B M5 := by rw [e27]; exact hM.u1 rfl (a8) ⟨by decide, by decide⟩
      refine ok_ite (fun q28 => ?_) (fun q28 => ?_)
      · have p29 : (0 : Int32) ≤ (((5 : Int32) * p0) + p1) ∧ (((5 : Int32) * p0) + p1) ≤ (39 : Int32) := by
          have c30 : (0 : Int32) ≤ (M.1 33 0 (p0).toNatClampNeg) ∧ (M.1 33 0 (p0).toNatClampNeg) ≤ (5 : Int32) := hM.at1 33 0 ((p0).toNatClampNeg)
          exact ⟨by grind, by grind⟩
        refine ok_b1 (s_X7_runs M5 hM5 (40 : Int32) ⟨by decide, by decide⟩ (((5 : Int32) * p0) + p1) p29 (a1) (a2) (a3) (fun p => a9 p) (fun p => a10 p)) (fun M8 v7 w31 => ?_)
        have hM8 : IV A B M8 := w31.1
        have w32 : (101 : Int32) ≤ v7 ∧ v7 ≤ (122 : Int32) := w31.2
        refine ok_lq (fun M10 e33 => ?_)
        have hM10 : IV A B M10 := by rw [e33]; exact hM8.u1 rfl (a4) ⟨by decide, by decide⟩
        refine ok_lq (fun M11 e34 => ?_)
        have hM11 : IV A B M11 := by rw [e34]; exact hM10.u1f rfl (a5) rfl
        refine ok_lq (fun M12 e35 => ?_)
        have p36 : (0 : Int32) ≤ (M11.1 26 0 39) ∧ (M11.1 26 0 39) ≤ (6 : Int32) := by
          have c37 : (0 : Int32) ≤ (M11.1 26 0 39) ∧ (M11.1 26 0 39) ≤ (6 : Int32) := hM11.at1 26 0 39
          have c38 : (M11.1 26 0 39) = (M10.1 26 0 39) := by rw [e34]; exact up_p (by decide)
          have c39 : (0 : Int32) ≤ (M10.1 26 0 39) ∧ (M10.1 26 0 39) ≤ (6 : Int32) := hM10.at1 26 0 39
          have c40 : (M10.1 26 0 39) = (M8.1 26 0 39) := by rw [e33]; exact up_p (by decide)
          have c41 : (0 : Int32) ≤ (M8.1 26 0 39) ∧ (M8.1 26 0 39) ≤ (6 : Int32) := hM8.at1 26 0 39
          exact ⟨by grind, by grind⟩
        have hM12 : IV A B M12 := by rw [e35]; exact hM11.u1 rfl (a6) p36
        refine ok_lq (fun M13 e42 => ?_)
        have hM13 : IV A B M13 := by rw [e42]; exact hM12.u1f rfl (a7) rfl
        have p43 : FU (0 : Int32) 6 1000 := by
          exact FU.start (by grind) (by decide)
        refine s_X7_run_L84 (fun p => a11 p) 1000 (0 : Int32) M13 _ p43 ⟨by decide, by decide⟩ hM13 (fun M15 hM15 => ?_)
        refine ok_gd ?_ (fun g44 => ?_)
        · exact okc_of (by grind) (by grind)
        have p45 : (0 : Int32) ≤ v7 ∧ v7 ≤ (122 : Int32) := by
          exact ⟨by grind, by grind⟩
        exact ok_some ⟨hM15, p45⟩
      · have p46 : (0 : Int32) ≤ (0 : Int32) ∧ (0 : Int32) ≤ (122 : Int32) := by
          exact ⟨by grind, by grind⟩
        exact ok_some ⟨hM5, p46⟩
    · unfold f_X7_run_J28
      refine ok_lq (fun M5 e47 => ?_)
      have hM5 : IV A B M5 := by rw [e47]; exact hM.u1 rfl (a8) ⟨by decide, by decide⟩
      refine ok_ite (fun q48 => ?_) (fun q48 => ?_)
      · have p49 : (0 : Int32) ≤ (((5 : Int32) * p0) + p1) ∧ (((5 : Int32) * p0) + p1) ≤ (39 : Int32) := by
          have c50 : (0 : Int32) ≤ (M.1 33 0 (p0).toNatClampNeg) ∧ (M.1 33 0 (p0).toNatClampNeg) ≤ (5 : Int32) := hM.at1 33 0 ((p0).toNatClampNeg)
          exact ⟨by grind, by grind⟩
        refine ok_b1 (s_X7_runs M5 hM5 (40 : Int32) ⟨by decide, by decide⟩ (((5 : Int32) * p0) + p1) p49 (a1) (a2) (a3) (fun p => a9 p) (fun p => a10 p)) (fun M8 v7 w51 => ?_)
        have hM8 : IV A B M8 := w51.1
        have w52 : (101 : Int32) ≤ v7 ∧ v7 ≤ (122 : Int32) := w51.2
        refine ok_lq (fun M10 e53 => ?_)
        have hM10 : IV A B M10 := by rw [e53]; exact hM8.u1 rfl (a4) ⟨by decide, by decide⟩
        refine ok_lq (fun M11 e54 => ?_)
        have hM11 : IV A B M11 := by rw [e54]; exact hM10.u1f rfl (a5) rfl
        refine ok_lq (fun M12 e55 => ?_)
        have p56 : (0 : Int32) ≤ (M11.1 26 0 39) ∧ (M11.1 26 0 39) ≤ (6 : Int32) := by
          have c57 : (0 : Int32) ≤ (M11.1 26 0 39) ∧ (M11.1 26 0 39) ≤ (6 : Int32) := hM11.at1 26 0 39
          have c58 : (M11.1 26 0 39) = (M10.1 26 0 39) := by rw [e54]; exact up_p (by decide)
          have c59 : (0 : Int32) ≤ (M10.1 26 0 39) ∧ (M10.1 26 0 39) ≤ (6 : Int32) := hM10.at1 26 0 39
          have c60 : (M10.1 26 0 39) = (M8.1 26 0 39) := by rw [e53]; exact up_p (by decide)
          have c61 : (0 : Int32) ≤ (M8.1 26 0 39) ∧ (M8.1 26 0 39) ≤ (6 : Int32) := hM8.at1 26 0 39
          exact ⟨by grind, by grind⟩
        have hM12 : IV A B M12 := by rw [e55]; exact hM11.u1 rfl (a6) p56
        refine ok_lq (fun M13 e62 => ?_)
        have hM13 : IV A B M13 := by rw [e62]; exact hM12.u1f rfl (a7) rfl
        have p63 : FU (0 : Int32) 6 1000 := by
          exact FU.start (by grind) (by decide)
        refine s_X7_run_L84 (fun p => a11 p) 1000 (0 : Int32) M13 _ p63 ⟨by decide, by decide⟩ hM13 (fun M15 hM15 => ?_)
        refine ok_gd ?_ (fun g64 => ?_)
        · exact okc_of (by grind) (by grind)
        have p65 : (0 : Int32) ≤ v7 ∧ v7 ≤ (122 : Int32) := by
          exact ⟨by grind, by grind⟩
        exact ok_some ⟨hM15, p65⟩
      · have p66 : (0 : Int32) ≤ (0 : Int32) ∧ (0 : Int32) ≤ (122 : Int32) := by
          exact ⟨by grind, by grind⟩
        exact ok_some ⟨hM5, p66⟩
theorem s_X7_done {A : Nat → Nat → Nat → Prop} {B : SS} (M : SS) (hM : IV A B M) (a1 : A 26 0 9) : ok (f_X7_done M) (fun r => IV A B r.1 ∧ True) := by
  unfold f_X7_done
  refine ok_ite (fun q1 => ?_) (fun q1 => ?_)
  · refine ok_b1 (s_X7_fails M hM (1 : Int32) ⟨by decide, by decide⟩ (a1)) (fun M3 v2 w2 => ?_)
    have hM3 : IV A B M3 := w2.1
    have w3 : (0 : Int32) ≤ v2 ∧ v2 ≤ (0 : Int32) := w2.2
    exact ok_some ⟨hM3, trivial⟩
  · refine ok_b1 (s_X7_tells M hM (M.1 26 0 44) (a1)) (fun M6 v5 w4 => ?_)
    have hM6 : IV A B M6 := w4.1
    exact ok_some ⟨hM6, trivial⟩
theorem s_X7_outputs {A : Nat → Nat → Nat → Prop} {B : SS} (M : SS) (hM : IV A B M) (a1 : A 26 0 9) : ok (f_X7_outputs M) (fun r => IV A B r.1 ∧ True) := by
  unfold f_X7_outputs
  refine ok_ite (fun q1 => ?_) (fun q1 => ?_)
  · refine ok_b1 (s_X7_fails M hM (1 : Int32) ⟨by decide, by decide⟩ (a1)) (fun M3 v2 w2 => ?_)
    have hM3 : IV A B M3 := w2.1
    have w3 : (0 : Int32) ≤ v2 ∧ v2 ≤ (0 : Int32) := w2.2
    exact ok_some ⟨hM3, trivial⟩
  · refine ok_b1 (s_X7_tells M hM (M.1 26 0 43) (a1)) (fun M6 v5 w4 => ?_)
    have hM6 : IV A B M6 := w4.1
    exact ok_some ⟨hM6, trivial⟩
theorem s_X7_output {A : Nat → Nat → Nat → Prop} {B : SS} (M : SS) (hM : IV A B M) (p0 : Int32) (a1 : A 26 0 9) : ok (f_X7_output M p0) (fun r => IV A B r.1 ∧ True) := by
  unfold f_X7_output
  refine ok_ite (fun q1 => ?_) (fun q1 => ?_)
  · refine ok_b1 (s_X7_fails M hM (1 : Int32) ⟨by decide, by decide⟩ (a1)) (fun M3 v2 w2 => ?_)
    have hM3 : IV A B M3 := w2.1
    have w3 : (0 : Int32) ≤ v2 ∧ v2 ≤ (0 : Int32) := w2.2
    exact ok_some ⟨hM3, trivial⟩
  · have p4 : ((-1) : Int32) ≤ ((M.1 26 0 43) - (1 : Int32)) ∧ ((M.1 26 0 43) - (1 : Int32)) ≤ (999 : Int32) := by
      have c5 : (0 : Int32) ≤ (M.1 26 0 43) ∧ (M.1 26 0 43) ≤ (6 : Int32) := hM.at1 26 0 43
      exact ⟨by grind, by grind⟩
    refine ok_b0 (s_X7_in p0 (0 : Int32) ⟨by decide, by decide⟩ ((M.1 26 0 43) - (1 : Int32)) p4) (fun v5 w6 => ?_)
    have w7 : (0 : Int32) ≤ v5 ∧ v5 ≤ (1 : Int32) ∧ ((v5 = 0 ∧ (p0 < (0 : Int32) ∨ ((M.1 26 0 43) - (1 : Int32)) < p0)) ∨ (v5 = 1 ∧ (0 : Int32) ≤ p0 ∧ p0 ≤ ((M.1 26 0 43) - (1 : Int32)))) := w6
    refine ok_ite (fun q8 => ?_) (fun q8 => ?_)
    · refine ok_b1 (s_X7_fails M hM (1 : Int32) ⟨by decide, by decide⟩ (a1)) (fun M9 v8 w9 => ?_)
      have hM9 : IV A B M9 := w9.1
      have w10 : (0 : Int32) ≤ v8 ∧ v8 ≤ (0 : Int32) := w9.2
      exact ok_some ⟨hM9, trivial⟩
    · refine ok_gd ?_ (fun g11 => ?_)
      · exact vp_of (by decide) (by grind) (show p0 < (6 : Int32) by grind)
      have g11 := vp_to (by decide) g11
      have g11 : (0 : Int32) ≤ p0 ∧ p0 < (6 : Int32) := g11
      refine ok_b1 (s_X7_tells M hM (M.1 55 0 (p0).toNatClampNeg) (a1)) (fun M13 v12 w12 => ?_)
      have hM13 : IV A B M13 := w12.1
      exact ok_some ⟨hM13, trivial⟩
theorem s_X7_depth {A : Nat → Nat → Nat → Prop} {B : SS} (M : SS) (hM : IV A B M) (a1 : A 26 0 9) : ok (f_X7_depth M) (fun r => IV A B r.1 ∧ True) := by
  unfold f_X7_depth
  refine ok_ite (fun q1 => ?_) (fun q1 => ?_)
  · refine ok_b1 (s_X7_fails M hM (1 : Int32) ⟨by decide, by decide⟩ (a1)) (fun M3 v2 w2 => ?_)
    have hM3 : IV A B M3 := w2.1
    have w3 : (0 : Int32) ≤ v2 ∧ v2 ≤ (0 : Int32) := w2.2
    exact ok_some ⟨hM3, trivial⟩
  · refine ok_b1 (s_X7_tells M hM (M.1 26 0 42) (a1)) (fun M6 v5 w4 => ?_)
    have hM6 : IV A B M6 := w4.1
    exact ok_some ⟨hM6, trivial⟩
theorem s_X7_isMember {A : Nat → Nat → Nat → Prop} {B : SS} (M : SS) (hM : IV A B M) (p0 : Int32) : ok (f_X7_isMember M p0) (fun r => (0 : Int32) ≤ r ∧ r ≤ (1 : Int32) ∧ ((r = 0 ∧ (p0 < 0 ∨ (M.1 26 0 4) ≤ p0)) ∨ (r = 1 ∧ 0 ≤ p0 ∧ p0 < (M.1 26 0 4)))) := by
  unfold f_X7_isMember
  have p1 : ((-1) : Int32) ≤ ((M.1 26 0 4) - (1 : Int32)) ∧ ((M.1 26 0 4) - (1 : Int32)) ≤ (999 : Int32) := by
    have c2 : (0 : Int32) ≤ (M.1 26 0 4) ∧ (M.1 26 0 4) ≤ (10 : Int32) := hM.at1 26 0 4
    exact ⟨by grind, by grind⟩
  refine ok_b0 (s_X7_in p0 (0 : Int32) ⟨by decide, by decide⟩ ((M.1 26 0 4) - (1 : Int32)) p1) (fun v1 w3 => ?_)
  have w4 : (0 : Int32) ≤ v1 ∧ v1 ≤ (1 : Int32) ∧ ((v1 = 0 ∧ (p0 < (0 : Int32) ∨ ((M.1 26 0 4) - (1 : Int32)) < p0)) ∨ (v1 = 1 ∧ (0 : Int32) ≤ p0 ∧ p0 ≤ ((M.1 26 0 4) - (1 : Int32)))) := w3
  refine ok_gd ?_ (fun g5 => ?_)
  · exact okz_of (by grind) (by grind)
  have p6 : (0 : Int32) ≤ v1 ∧ v1 ≤ (1 : Int32) ∧ ((v1 = 0 ∧ (p0 < 0 ∨ (M.1 26 0 4) ≤ p0)) ∨ (v1 = 1 ∧ 0 ≤ p0 ∧ p0 < (M.1 26 0 4))) := by
    have c7 : (0 : Int32) ≤ (M.1 26 0 4) ∧ (M.1 26 0 4) ≤ (10 : Int32) := hM.at1 26 0 4
    grind
  exact ok_some p6
theorem s_X7_isWork {A : Nat → Nat → Nat → Prop} {B : SS} (M : SS) (hM : IV A B M) (p0 : Int32) : ok (f_X7_isWork M p0) (fun r => (0 : Int32) ≤ r ∧ r ≤ (1 : Int32) ∧ ((r = 0 ∧ (p0 < 0 ∨ (M.1 26 0 5) ≤ p0)) ∨ (r = 1 ∧ 0 ≤ p0 ∧ p0 < (M.1 26 0 5)))) := by
  unfold f_X7_isWork
  have p1 : ((-1) : Int32) ≤ ((M.1 26 0 5) - (1 : Int32)) ∧ ((M.1 26 0 5) - (1 : Int32)) ≤ (999 : Int32) := by
    have c2 : (0 : Int32) ≤ (M.1 26 0 5) ∧ (M.1 26 0 5) ≤ (40 : Int32) := hM.at1 26 0 5
    exact ⟨by grind, by grind⟩
  refine ok_b0 (s_X7_in p0 (0 : Int32) ⟨by decide, by decide⟩ ((M.1 26 0 5) - (1 : Int32)) p1) (fun v1 w3 => ?_)
  have w4 : (0 : Int32) ≤ v1 ∧ v1 ≤ (1 : Int32) ∧ ((v1 = 0 ∧ (p0 < (0 : Int32) ∨ ((M.1 26 0 5) - (1 : Int32)) < p0)) ∨ (v1 = 1 ∧ (0 : Int32) ≤ p0 ∧ p0 ≤ ((M.1 26 0 5) - (1 : Int32)))) := w3
  refine ok_gd ?_ (fun g5 => ?_)
  · exact okz_of (by grind) (by grind)
  have p6 : (0 : Int32) ≤ v1 ∧ v1 ≤ (1 : Int32) ∧ ((v1 = 0 ∧ (p0 < 0 ∨ (M.1 26 0 5) ≤ p0)) ∨ (v1 = 1 ∧ 0 ≤ p0 ∧ p0 < (M.1 26 0 5))) := by
    have c7 : (0 : Int32) ≤ (M.1 26 0 5) ∧ (M.1 26 0 5) ≤ (40 : Int32) := hM.at1 26 0 5
    grind
  exact ok_some p6
theorem s_X7_member {A : Nat → Nat → Nat → Prop} {B : SS} (M : SS) (hM : IV A B M) (a1 : A 26 0 4) (a2 : A 26 0 9) (a3 : ∀ p, A 51 0 p) : ok (f_X7_member M) (fun r => IV A B r.1 ∧ True) := by
  unfold f_X7_member
  refine ok_ite (fun q1 => ?_) (fun q1 => ?_)
  · refine ok_b1 (s_X7_fails M hM (1 : Int32) ⟨by decide, by decide⟩ (a2)) (fun M9 v8 w2 => ?_)
    have hM9 : IV A B M9 := w2.1
    have w3 : (0 : Int32) ≤ v8 ∧ v8 ≤ (0 : Int32) := w2.2
    exact ok_some ⟨hM9, trivial⟩
  · refine ok_gd ?_ (fun g4 => ?_)
    · have c5 : (0 : Int32) ≤ (M.1 26 0 4) ∧ (M.1 26 0 4) ≤ (10 : Int32) := hM.at1 26 0 4
      exact vp_of (by decide) (by grind) (show (M.1 26 0 4) < (10 : Int32) by grind)
    have g4 := vp_to (by decide) g4
    have g4 : (0 : Int32) ≤ (M.1 26 0 4) ∧ (M.1 26 0 4) < (10 : Int32) := g4
    refine ok_lq (fun M3 e6 => ?_)
    have hM3 : IV A B M3 := by rw [e6]; exact hM.u1f rfl (a3 (((M.1 26 0 4)).toNatClampNeg)) rfl
    refine ok_lq (fun M4 e7 => ?_)
    have p8 : (0 : Int32) ≤ ((M3.1 26 0 4) + (1 : Int32)) ∧ ((M3.1 26 0 4) + (1 : Int32)) ≤ (10 : Int32) := by
      have c9 : (0 : Int32) ≤ (M3.1 26 0 4) ∧ (M3.1 26 0 4) ≤ (10 : Int32) := hM3.at1 26 0 4
      have c10 : (M3.1 26 0 4) = (M.1 26 0 4) := by rw [e6]; exact up_k (by decide)
      have c11 : (0 : Int32) ≤ (M.1 26 0 4) ∧ (M.1 26 0 4) ≤ (10 : Int32) := hM.at1 26 0 4
      exact ⟨by grind, by grind⟩
    have hM4 : IV A B M4 := by rw [e7]; exact hM3.u1 rfl (a1) p8
    refine ok_b1 (s_X7_tells M4 hM4 ((M4.1 26 0 4) - (1 : Int32)) (a2)) (fun M6 v5 w12 => ?_)
    have hM6 : IV A B M6 := w12.1
    exact ok_some ⟨hM6, trivial⟩
def CPI (q v : Nat) (M : SS) : Prop := M.1 29 0 40 = M.1 26 0 0 ∧ M.1 29 0 q = M.1 29 0 40 ∧ (∀ r a : Nat, r ≤ 40 → r ≠ q → a < 24 → nI a < M.1 29 0 r → isL (M.1 27 0 (24 * r + a))) ∧ ∀ a : Nat, a < v → isL (M.1 27 0 (24 * q + a))
theorem cp_L14 {A : Nat → Nat → Nat → Prop} {B : SS} {q : Nat} (hq : q ≤ 39) (a27 : ∀ p, A 27 0 p) (a28 : ∀ p, A 28 0 p) {P : SS × Unit → Prop} : ∀ (n : Nat) (a : Nat) (M7 : SS) (k4 : SS → Option (SS × Unit)), 25 ≤ a + n → a ≤ 24 → IV0 A B M7 → CPI q a M7 → (∀ M5, IV A B M5 → ok (k4 M5) P) → ok (f_X7_copies_L14 40 (nI q) n (nI a) M7 k4) P := by
  intro n
  induction n with
  | zero => intro a M7 k4 hF ha; omega
  | succ n ih =>
    intro a M7 k4 hF ha hM hC hk
    rw [f_X7_copies_L14]
    have hs : (0 : Int32) ≤ M7.1 29 0 40 ∧ M7.1 29 0 40 ≤ (24 : Int32) := hM.at1 29 0 40
    refine ok_gd (by decide) (fun g => ?_)
    rw [show ((40 : Int32)).toNatClampNeg = 40 from rfl]
    refine ok_ite (fun c => ?_) (fun c => ?_)
    · refine hk M7 ⟨hM, hC.1, fun r b hr hb hs2 => ?_⟩
      by_cases hrq : r = q
      · subst hrq
        rw [hC.2.1] at hs2
        refine hC.2.2.2 b ?_
        have : nI b < nI a := by grind
        exact (nI_ltI (by omega) (by omega)).mp this
      · exact hC.2.2.1 r b hr hrq hb hs2
    · have ha24 : a < 24 := by
        have : nI a < (24 : Int32) := by grind
        exact (nI_ltI (by omega) (by decide : (24 : Nat) < 2 ^ 31)).mp this
      have hsz : nI a < M7.1 29 0 40 := by grind
      have e1 : ((24 : Int32) * (40 : Int32)) + nI a = nI (24 * 40 + a) := by rw [show (24 : Int32) = nI 24 from rfl, show (40 : Int32) = nI 40 from rfl, pk_mul, nI_add]
      have e2 : ((24 : Int32) * nI q) + nI a = nI (24 * q + a) := by rw [show (24 : Int32) = nI 24 from rfl, pk_mul, nI_add]
      rw [e1, e2, nI_clamp (show 24 * 40 + a < 2 ^ 31 by omega), nI_clamp (show 24 * q + a < 2 ^ 31 by omega)]
      have v1 : vp_in (nI (24 * 40 + a)) 984 := nI_in (by omega) (by decide)
      have v2 : vp_in (nI (24 * q + a)) 984 := nI_in (by omega) (by decide)
      refine ok_gd v1 (fun _ => ok_gd v2 (fun _ => ok_lq (fun M12 e12 => ok_gd v1 (fun _ => ok_gd v2 (fun _ => ok_lq (fun M15 e15 => ?_))))))
      have hL : isL (M7.1 27 0 (24 * 40 + a)) := hC.2.2.1 40 a (Nat.le_refl _) (by omega) ha24 hsz
      rw [nar_isL hL] at e12
      have h12 : IV0 A B M12 := by rw [e12]; exact hM.u1 (a27 _) (hM.at1 27 0 (24 * 40 + a))
      have h15 : IV0 A B M15 := by rw [e15]; exact h12.u1f rfl (a28 _)
      rw [nI_1]
      have e27 : ∀ p, M15.1 27 0 p = if p = 24 * q + a then M7.1 27 0 (24 * 40 + a) else M7.1 27 0 p := by
        intro p
        rw [e15, up_k (by decide), e12, up_e]
        by_cases z : p = 24 * q + a
        · rw [if_pos ⟨rfl, rfl, z⟩, if_pos z]
        · rw [if_neg (fun q => z q.2.2), if_neg z]
      have e29 : ∀ p, M15.1 29 0 p = M7.1 29 0 p := fun p => by rw [e15, up_k (by decide), e12, up_k (by decide)]
      have e26 : M15.1 26 0 0 = M7.1 26 0 0 := by rw [e15, up_k (by decide), e12, up_k (by decide)]
      refine ih (a + 1) M15 k4 (by omega) (by omega) h15 ⟨by rw [e29, e26]; exact hC.1, by rw [e29, e29]; exact hC.2.1, fun r b hr hrq hb hs2 => ?_, fun b hb => ?_⟩ hk
      · rw [e29] at hs2
        rw [e27, if_neg (by omega)]
        exact hC.2.2.1 r b hr hrq hb hs2
      · rw [e27]
        by_cases z : b = a
        · rw [if_pos (by omega)]
          exact hL
        · rw [if_neg (by omega)]
          exact hC.2.2.2 b (by omega)
theorem s_X7_copies_L14 {A : Nat → Nat → Nat → Prop} {B : SS} (p0 : Int32) (ip0 : (40 : Int32) ≤ p0 ∧ p0 ≤ (40 : Int32)) (p1 : Int32) (ip1 : (0 : Int32) ≤ p1 ∧ p1 ≤ (39 : Int32)) (a1 : ∀ p, A 27 0 p) (a2 : ∀ p, A 28 0 p) : ∀ (n : Nat), ∀ (v6 : Int32) (M7 : SS) (k4 : (SS → Option (SS × Unit))), (FU v6 24 n) → ((0 : Int32) ≤ v6 ∧ v6 ≤ (24 : Int32)) → (IV A B M7) → (∀ (k_0 : SS), (IV A B k_0) → ok (k4 k_0) (fun r => IV A B r.1 ∧ True)) → ok (f_X7_copies_L14 p0 p1 n v6 M7 k4) (fun r => IV A B r.1 ∧ True) := sorry
theorem s_X7_copies {A : Nat → Nat → Nat → Prop} {B : SS} (M : SS) (hM : IV A B M) (p0 : Int32) (ip0 : (40 : Int32) ≤ p0 ∧ p0 ≤ (40 : Int32)) (p1 : Int32) (ip1 : (0 : Int32) ≤ p1 ∧ p1 ≤ (39 : Int32)) (a1 : ∀ p, A 27 0 p) (a2 : ∀ p, A 28 0 p) (a3 : A 29 0 (p1).toNatClampNeg) : ok (f_X7_copies M p0 p1) (fun r => IV A B r.1 ∧ True) := by
  obtain rfl : p0 = 40 := by grind
  obtain ⟨q, hq, rfl⟩ := nI_of (x := p1) (by grind)
  have hq2 : q ≤ 39 := (nI_leI hq (by decide : (39 : Nat) < 2 ^ 31)).mp ip1.2
  unfold f_X7_copies
  refine ok_gd (by decide) (fun _ => ok_gd (nI_in (by omega) (by decide)) (fun _ => ok_lq (fun M3 e3 => ?_)))
  rw [nI_clamp hq, show ((40 : Int32)).toNatClampNeg = 40 from rfl] at e3
  have h3 : IV0 A B M3 := by rw [e3]; exact hM.1.u1 (by have := a3; rwa [nI_clamp hq] at this) (hM.at1 29 0 40)
  refine cp_L14 hq2 a1 a2 1000 0 M3 _ (by omega) (by omega) h3 ⟨?_, ?_, fun r b hr hrq hb hs2 => ?_, fun b hb => absurd hb (by omega)⟩ (fun M5 h5 => ok_some ⟨h5, trivial⟩)
  · rw [e3, up_p (by omega), up_k (by decide)]
    exact hM.2.1
  · rw [e3, up_s, up_p (by omega)]
  · rw [e3, up_p hrq] at hs2
    rw [e3, up_k (by decide)]
    exact hM.2.2 r b hr hb hs2
theorem s_X7_bodyCount_L4 {A : Nat → Nat → Nat → Prop} {B : SS} (M : SS) (hM : IV A B M) : ∀ (n : Nat), ∀ (v3 : Int32) (v4 : Int32) (k1 : (Int32 → Option (Int32))), (FU v3 40 n) → ((0 : Int32) ≤ v3 ∧ v3 ≤ (40 : Int32)) → (∀ (k_0 : Int32), ok (k1 k_0) (fun r => True)) → ok (f_X7_bodyCount_L4 M n v3 v4 k1) (fun r => True) := by
  intro n
  induction n with
  | zero =>
    intro v3 v4 k1 hF iv3 hk
    exact (FU.stop hF (show v3 ≤ (40 : Int32) by grind)).elim
  | succ n ih =>
    intro v3 v4 k1 hF iv3 hk
    rw [f_X7_bodyCount_L4]
    refine ok_ite (fun q1 => ?_) (fun q1 => ?_)
    · exact hk v4
    · refine ok_gd ?_ (fun g2 => ?_)
      · have c3 : (0 : Int32) ≤ (M.1 26 0 5) ∧ (M.1 26 0 5) ≤ (40 : Int32) := hM.at1 26 0 5
        exact vp_of (by decide) (by grind) (show v3 < (40 : Int32) by grind)
      have g2 := vp_to (by decide) g2
      have g2 : (0 : Int32) ≤ v3 ∧ v3 < (40 : Int32) := g2
      refine ok_ite (fun q4 => ?_) (fun q4 => ?_)
      · refine ok_lq (fun v8 e5 => ?_)
        have p6 : FU (v3 + (1 : Int32)) 40 _ := by
          have c7 : (0 : Int32) ≤ (M.1 26 0 5) ∧ (M.1 26 0 5) ≤ (40 : Int32) := hM.at1 26 0 5
          have c8 : (0 : Int32) ≤ (M.1 43 0 (v3).toNatClampNeg) ∧ (M.1 43 0 (v3).toNatClampNeg) ≤ (1 : Int32) := hM.at1 43 0 ((v3).toNatClampNeg)
          exact FU.step hF (by grind)
        have p9 : (0 : Int32) ≤ (v3 + (1 : Int32)) ∧ (v3 + (1 : Int32)) ≤ (40 : Int32) := by
          have c10 : (0 : Int32) ≤ (M.1 26 0 5) ∧ (M.1 26 0 5) ≤ (40 : Int32) := hM.at1 26 0 5
          have c11 : (0 : Int32) ≤ (M.1 43 0 (v3).toNatClampNeg) ∧ (M.1 43 0 (v3).toNatClampNeg) ≤ (1 : Int32) := hM.at1 43 0 ((v3).toNatClampNeg)
          exact ⟨by grind, by grind⟩
        exact ih (v3 + (1 : Int32)) v8 k1 p6 p9 hk
      · refine ok_lq (fun v9 e12 => ?_)
        have p13 : FU (v3 + (1 : Int32)) 40 _ := by
          have c14 : (0 : Int32) ≤ (M.1 26 0 5) ∧ (M.1 26 0 5) ≤ (40 : Int32) := hM.at1 26 0 5
          have c15 : (0 : Int32) ≤ (M.1 43 0 (v3).toNatClampNeg) ∧ (M.1 43 0 (v3).toNatClampNeg) ≤ (1 : Int32) := hM.at1 43 0 ((v3).toNatClampNeg)
          exact FU.step hF (by grind)
        have p16 : (0 : Int32) ≤ (v3 + (1 : Int32)) ∧ (v3 + (1 : Int32)) ≤ (40 : Int32) := by
          have c17 : (0 : Int32) ≤ (M.1 26 0 5) ∧ (M.1 26 0 5) ≤ (40 : Int32) := hM.at1 26 0 5
          have c18 : (0 : Int32) ≤ (M.1 43 0 (v3).toNatClampNeg) ∧ (M.1 43 0 (v3).toNatClampNeg) ≤ (1 : Int32) := hM.at1 43 0 ((v3).toNatClampNeg)
          exact ⟨by grind, by grind⟩
        exact ih (v3 + (1 : Int32)) v9 k1 p13 p16 hk
theorem s_X7_bodyCount {A : Nat → Nat → Nat → Prop} {B : SS} (M : SS) (hM : IV A B M) : ok (f_X7_bodyCount M) (fun r => True) := by
  unfold f_X7_bodyCount
  have p1 : FU (0 : Int32) 40 1000 := by
    exact FU.start (by grind) (by decide)
  refine s_X7_bodyCount_L4 M hM 1000 (0 : Int32) (0 : Int32) _ p1 ⟨by decide, by decide⟩ (fun v2 => ?_)
  exact ok_some trivial
theorem s_X7_weightOf_L4 {A : Nat → Nat → Nat → Prop} {B : SS} (p0 : Int32) (ip0 : (0 : Int32) ≤ p0 ∧ p0 ≤ (39 : Int32)) (M : SS) (hM : IV A B M) : ∀ (n : Nat), ∀ (v3 : Int32) (v4 : Int32) (k1 : (Int32 → Option (Int32))), (FU v3 10 n) → ((0 : Int32) ≤ v3 ∧ v3 ≤ (10 : Int32)) → ((0 : Int32) ≤ v4) → (v4 ≤ (6 : Int32) * v3) → (∀ (k_0 : Int32), ((0 : Int32) ≤ k_0 ∧ k_0 ≤ (60 : Int32)) → ok (k1 k_0) (fun r => ((0 : Int32) ≤ r ∧ r ≤ (60 : Int32)))) → ok (f_X7_weightOf_L4 p0 M n v3 v4 k1) (fun r => ((0 : Int32) ≤ r ∧ r ≤ (60 : Int32))) := by
  intro n
  induction n with
  | zero =>
    intro v3 v4 k1 hF iv3 x0 x1 hk
    exact (FU.stop hF (show v3 ≤ (10 : Int32) by grind)).elim
  | succ n ih =>
    intro v3 v4 k1 hF iv3 x0 x1 hk
    rw [f_X7_weightOf_L4]
    refine ok_ite (fun q1 => ?_) (fun q1 => ?_)
    · have p2 : (0 : Int32) ≤ v4 ∧ v4 ≤ (60 : Int32) := by
        grind
      exact hk v4 p2
    · refine ok_gd ?_ (fun g3 => ?_)
      · exact vp_of (by decide) (by grind) (show (((10 : Int32) * p0) + v3) < (400 : Int32) by grind)
      have g3 := vp_to (by decide) g3
      have g3 : (0 : Int32) ≤ (((10 : Int32) * p0) + v3) ∧ (((10 : Int32) * p0) + v3) < (400 : Int32) := g3
      refine ok_lq (fun v7 e4 => ?_)
      have p5 : FU (v3 + (1 : Int32)) 10 _ := by
        exact FU.step hF (by grind)
      have p6 : (0 : Int32) ≤ (v3 + (1 : Int32)) ∧ (v3 + (1 : Int32)) ≤ (10 : Int32) := by
        exact ⟨by grind, by grind⟩
      have p7 : (0 : Int32) ≤ v7 := by
        have c8 : (0 : Int32) ≤ (M.1 47 0 ((((10 : Int32) * p0) + v3)).toNatClampNeg) ∧ (M.1 47 0 ((((10 : Int32) * p0) + v3)).toNatClampNeg) ≤ (6 : Int32) := hM.at1 47 0 (((((10 : Int32) * p0) + v3)).toNatClampNeg)
        grind
      have p9 : v7 ≤ (6 : Int32) * (v3 + (1 : Int32)) := by
        have c10 : (0 : Int32) ≤ (M.1 47 0 ((((10 : Int32) * p0) + v3)).toNatClampNeg) ∧ (M.1 47 0 ((((10 : Int32) * p0) + v3)).toNatClampNeg) ≤ (6 : Int32) := hM.at1 47 0 (((((10 : Int32) * p0) + v3)).toNatClampNeg)
        grind
      exact ih (v3 + (1 : Int32)) v7 k1 p5 p6 p7 p9 hk
theorem s_X7_weightOf {A : Nat → Nat → Nat → Prop} {B : SS} (M : SS) (hM : IV A B M) (p0 : Int32) (ip0 : (0 : Int32) ≤ p0 ∧ p0 ≤ (39 : Int32)) : ok (f_X7_weightOf M p0) (fun r => ((0 : Int32) ≤ r ∧ r ≤ (60 : Int32))) := by
  unfold f_X7_weightOf
  have p1 : (0 : Int32) ≤ p0 ∧ p0 ≤ (39 : Int32) := by
    exact ⟨by grind, by grind⟩
  have p2 : FU (0 : Int32) 10 1000 := by
    exact FU.start (by grind) (by decide)
  have p3 : (0 : Int32) ≤ (0 : Int32) := by
    grind
  have p4 : (0 : Int32) ≤ (6 : Int32) * (0 : Int32) := by
    grind
  refine s_X7_weightOf_L4 p0 p1 M hM 1000 (0 : Int32) (0 : Int32) _ p2 ⟨by decide, by decide⟩ p3 p4 (fun v2 ek => ?_)
  have e5 : (0 : Int32) ≤ v2 ∧ v2 ≤ (60 : Int32) := ek
  have p6 : ((0 : Int32) ≤ v2 ∧ v2 ≤ (60 : Int32)) := by
    grind
  exact ok_some p6
theorem s_X7_isWorse {A : Nat → Nat → Nat → Prop} {B : SS} (M : SS) (hM : IV A B M) (p0 : Int32) (ip0 : (0 : Int32) ≤ p0 ∧ p0 ≤ (39 : Int32)) (p1 : Int32) (ip1 : (0 : Int32) ≤ p1 ∧ p1 ≤ (39 : Int32)) : ok (f_X7_isWorse M p0 p1) (fun r => (0 : Int32) ≤ r ∧ r ≤ (1 : Int32)) := by
  unfold f_X7_isWorse
  refine ok_gd ?_ (fun g1 => ?_)
  · exact vp_of (by decide) (by grind) (show p0 < (40 : Int32) by grind)
  have g1 := vp_to (by decide) g1
  have g1 : (0 : Int32) ≤ p0 ∧ p0 < (40 : Int32) := g1
  refine ok_ite (fun q2 => ?_) (fun q2 => ?_)
  · unfold f_X7_isWorse_J16
    refine ok_gd ?_ (fun g3 => ?_)
    · exact vp_of (by decide) (by grind) (show p1 < (40 : Int32) by grind)
    have g3 := vp_to (by decide) g3
    have g3 : (0 : Int32) ≤ p1 ∧ p1 < (40 : Int32) := g3
    refine ok_ite (fun q4 => ?_) (fun q4 => ?_)
    · unfold f_X7_isWorse_J32
      refine ok_ite (fun q5 => ?_) (fun q5 => ?_)
      · have p6 : (0 : Int32) ≤ p0 ∧ p0 ≤ (39 : Int32) := by
          have c7 : (0 : Int32) ≤ (M.1 42 0 (p0).toNatClampNeg) ∧ (M.1 42 0 (p0).toNatClampNeg) ≤ (65535 : Int32) := hM.at1 42 0 ((p0).toNatClampNeg)
          exact ⟨by grind, by grind⟩
        refine ok_b0 (s_X7_weightOf M hM p0 p6) (fun v8 w8 => ?_)
        have w9 : ((0 : Int32) ≤ v8 ∧ v8 ≤ (60 : Int32)) := w8
        have p10 : (0 : Int32) ≤ p1 ∧ p1 ≤ (39 : Int32) := by
          have c11 : (0 : Int32) ≤ (M.1 42 0 (p1).toNatClampNeg) ∧ (M.1 42 0 (p1).toNatClampNeg) ≤ (65535 : Int32) := hM.at1 42 0 ((p1).toNatClampNeg)
          exact ⟨by grind, by grind⟩
        refine ok_b0 (s_X7_weightOf M hM p1 p10) (fun v10 w12 => ?_)
        have w13 : ((0 : Int32) ≤ v10 ∧ v10 ≤ (60 : Int32)) := w12
        refine ok_ite (fun q14 => ?_) (fun q14 => ?_)
        · have p15 : (0 : Int32) ≤ (0 : Int32) ∧ (0 : Int32) ≤ (1 : Int32) := by
            exact ⟨by grind, by grind⟩
          exact ok_some p15
        · have p16 : (0 : Int32) ≤ (1 : Int32) ∧ (1 : Int32) ≤ (1 : Int32) := by
            exact ⟨by grind, by grind⟩
          exact ok_some p16
      · refine ok_gd ?_ (fun g17 => ?_)
        · have c18 : (0 : Int32) ≤ (M.1 42 0 (p0).toNatClampNeg) ∧ (M.1 42 0 (p0).toNatClampNeg) ≤ (65535 : Int32) := hM.at1 42 0 ((p0).toNatClampNeg)
          exact vp_of (by decide) (by grind) (show p0 < (40 : Int32) by grind)
        have g17 := vp_to (by decide) g17
        have g17 : (0 : Int32) ≤ p0 ∧ p0 < (40 : Int32) := g17
        refine ok_ite (fun q19 => ?_) (fun q19 => ?_)
        · have p20 : (0 : Int32) ≤ (1 : Int32) ∧ (1 : Int32) ≤ (1 : Int32) := by
            exact ⟨by grind, by grind⟩
          exact ok_some p20
        · have p21 : (0 : Int32) ≤ (0 : Int32) ∧ (0 : Int32) ≤ (1 : Int32) := by
            exact ⟨by grind, by grind⟩
          exact ok_some p21
    · unfold f_X7_isWorse_J32
      refine ok_ite (fun q22 => ?_) (fun q22 => ?_)
      · have p23 : (0 : Int32) ≤ p0 ∧ p0 ≤ (39 : Int32) := by
          have c24 : (0 : Int32) ≤ (M.1 42 0 (p0).toNatClampNeg) ∧ (M.1 42 0 (p0).toNatClampNeg) ≤ (65535 : Int32) := hM.at1 42 0 ((p0).toNatClampNeg)
          exact ⟨by grind, by grind⟩
        refine ok_b0 (s_X7_weightOf M hM p0 p23) (fun v8 w25 => ?_)
        have w26 : ((0 : Int32) ≤ v8 ∧ v8 ≤ (60 : Int32)) := w25
        have p27 : (0 : Int32) ≤ p1 ∧ p1 ≤ (39 : Int32) := by
          have c28 : (0 : Int32) ≤ (M.1 42 0 (p1).toNatClampNeg) ∧ (M.1 42 0 (p1).toNatClampNeg) ≤ (65535 : Int32) := hM.at1 42 0 ((p1).toNatClampNeg)
          exact ⟨by grind, by grind⟩
        refine ok_b0 (s_X7_weightOf M hM p1 p27) (fun v10 w29 => ?_)
        have w30 : ((0 : Int32) ≤ v10 ∧ v10 ≤ (60 : Int32)) := w29
        refine ok_ite (fun q31 => ?_) (fun q31 => ?_)
        · have p32 : (0 : Int32) ≤ (0 : Int32) ∧ (0 : Int32) ≤ (1 : Int32) := by
            exact ⟨by grind, by grind⟩
          exact ok_some p32
        · have p33 : (0 : Int32) ≤ (1 : Int32) ∧ (1 : Int32) ≤ (1 : Int32) := by
            exact ⟨by grind, by grind⟩
          exact ok_some p33
      · refine ok_gd ?_ (fun g34 => ?_)
        · have c35 : (0 : Int32) ≤ (M.1 42 0 (p0).toNatClampNeg) ∧ (M.1 42 0 (p0).toNatClampNeg) ≤ (65535 : Int32) := hM.at1 42 0 ((p0).toNatClampNeg)
          exact vp_of (by decide) (by grind) (show p0 < (40 : Int32) by grind)
        have g34 := vp_to (by decide) g34
        have g34 : (0 : Int32) ≤ p0 ∧ p0 < (40 : Int32) := g34
        refine ok_ite (fun q36 => ?_) (fun q36 => ?_)
        · have p37 : (0 : Int32) ≤ (1 : Int32) ∧ (1 : Int32) ≤ (1 : Int32) := by
            exact ⟨by grind, by grind⟩
          exact ok_some p37
        · have p38 : (0 : Int32) ≤ (0 : Int32) ∧ (0 : Int32) ≤ (1 : Int32) := by
            exact ⟨by grind, by grind⟩
          exact ok_some p38
  · unfold f_X7_isWorse_J16
    refine ok_gd ?_ (fun g39 => ?_)
    · exact vp_of (by decide) (by grind) (show p1 < (40 : Int32) by grind)
    have g39 := vp_to (by decide) g39
    have g39 : (0 : Int32) ≤ p1 ∧ p1 < (40 : Int32) := g39
    refine ok_ite (fun q40 => ?_) (fun q40 => ?_)
    · unfold f_X7_isWorse_J32
      refine ok_ite (fun q41 => ?_) (fun q41 => ?_)
      · have p42 : (0 : Int32) ≤ p0 ∧ p0 ≤ (39 : Int32) := by
          have c43 : (0 : Int32) ≤ (M.1 42 0 (p0).toNatClampNeg) ∧ (M.1 42 0 (p0).toNatClampNeg) ≤ (65535 : Int32) := hM.at1 42 0 ((p0).toNatClampNeg)
          exact ⟨by grind, by grind⟩
        refine ok_b0 (s_X7_weightOf M hM p0 p42) (fun v8 w44 => ?_)
        have w45 : ((0 : Int32) ≤ v8 ∧ v8 ≤ (60 : Int32)) := w44
        have p46 : (0 : Int32) ≤ p1 ∧ p1 ≤ (39 : Int32) := by
          have c47 : (0 : Int32) ≤ (M.1 42 0 (p1).toNatClampNeg) ∧ (M.1 42 0 (p1).toNatClampNeg) ≤ (65535 : Int32) := hM.at1 42 0 ((p1).toNatClampNeg)
          exact ⟨by grind, by grind⟩
        refine ok_b0 (s_X7_weightOf M hM p1 p46) (fun v10 w48 => ?_)
        have w49 : ((0 : Int32) ≤ v10 ∧ v10 ≤ (60 : Int32)) := w48
        refine ok_ite (fun q50 => ?_) (fun q50 => ?_)
        · have p51 : (0 : Int32) ≤ (0 : Int32) ∧ (0 : Int32) ≤ (1 : Int32) := by
            exact ⟨by grind, by grind⟩
          exact ok_some p51
        · have p52 : (0 : Int32) ≤ (1 : Int32) ∧ (1 : Int32) ≤ (1 : Int32) := by
            exact ⟨by grind, by grind⟩
          exact ok_some p52
      · refine ok_gd ?_ (fun g53 => ?_)
        · have c54 : (0 : Int32) ≤ (M.1 42 0 (p0).toNatClampNeg) ∧ (M.1 42 0 (p0).toNatClampNeg) ≤ (65535 : Int32) := hM.at1 42 0 ((p0).toNatClampNeg)
          exact vp_of (by decide) (by grind) (show p0 < (40 : Int32) by grind)
        have g53 := vp_to (by decide) g53
        have g53 : (0 : Int32) ≤ p0 ∧ p0 < (40 : Int32) := g53
        refine ok_ite (fun q55 => ?_) (fun q55 => ?_)
        · have p56 : (0 : Int32) ≤ (1 : Int32) ∧ (1 : Int32) ≤ (1 : Int32) := by
            exact ⟨by grind, by grind⟩
          exact ok_some p56
        · have p57 : (0 : Int32) ≤ (0 : Int32) ∧ (0 : Int32) ≤ (1 : Int32) := by
            exact ⟨by grind, by grind⟩
          exact ok_some p57
    · unfold f_X7_isWorse_J32
      refine ok_ite (fun q58 => ?_) (fun q58 => ?_)
      · have p59 : (0 : Int32) ≤ p0 ∧ p0 ≤ (39 : Int32) := by
          have c60 : (0 : Int32) ≤ (M.1 42 0 (p0).toNatClampNeg) ∧ (M.1 42 0 (p0).toNatClampNeg) ≤ (65535 : Int32) := hM.at1 42 0 ((p0).toNatClampNeg)
          exact ⟨by grind, by grind⟩
        refine ok_b0 (s_X7_weightOf M hM p0 p59) (fun v8 w61 => ?_)
        have w62 : ((0 : Int32) ≤ v8 ∧ v8 ≤ (60 : Int32)) := w61
        have p63 : (0 : Int32) ≤ p1 ∧ p1 ≤ (39 : Int32) := by
          have c64 : (0 : Int32) ≤ (M.1 42 0 (p1).toNatClampNeg) ∧ (M.1 42 0 (p1).toNatClampNeg) ≤ (65535 : Int32) := hM.at1 42 0 ((p1).toNatClampNeg)
          exact ⟨by grind, by grind⟩
        refine ok_b0 (s_X7_weightOf M hM p1 p63) (fun v10 w65 => ?_)
        have w66 : ((0 : Int32) ≤ v10 ∧ v10 ≤ (60 : Int32)) := w65
        refine ok_ite (fun q67 => ?_) (fun q67 => ?_)
        · have p68 : (0 : Int32) ≤ (0 : Int32) ∧ (0 : Int32) ≤ (1 : Int32) := by
            exact ⟨by grind, by grind⟩
          exact ok_some p68
        · have p69 : (0 : Int32) ≤ (1 : Int32) ∧ (1 : Int32) ≤ (1 : Int32) := by
            exact ⟨by grind, by grind⟩
          exact ok_some p69
      · refine ok_gd ?_ (fun g70 => ?_)
        · have c71 : (0 : Int32) ≤ (M.1 42 0 (p0).toNatClampNeg) ∧ (M.1 42 0 (p0).toNatClampNeg) ≤ (65535 : Int32) := hM.at1 42 0 ((p0).toNatClampNeg)
          exact vp_of (by decide) (by grind) (show p0 < (40 : Int32) by grind)
        have g70 := vp_to (by decide) g70
        have g70 : (0 : Int32) ≤ p0 ∧ p0 < (40 : Int32) := g70
        refine ok_ite (fun q72 => ?_) (fun q72 => ?_)
        · have p73 : (0 : Int32) ≤ (1 : Int32) ∧ (1 : Int32) ≤ (1 : Int32) := by
            exact ⟨by grind, by grind⟩
          exact ok_some p73
        · have p74 : (0 : Int32) ≤ (0 : Int32) ∧ (0 : Int32) ≤ (1 : Int32) := by
            exact ⟨by grind, by grind⟩
          exact ok_some p74
theorem s_X7_stepsOf {A : Nat → Nat → Nat → Prop} {B : SS} (M : SS) (hM : IV A B M) (p0 : Int32) (ip0 : (0 : Int32) ≤ p0 ∧ p0 ≤ (39 : Int32)) (p1 : Int32) (ip1 : (0 : Int32) ≤ p1 ∧ p1 ≤ (4 : Int32)) (a1 : A 26 0 38) (a2 : A 26 0 39) (a3 : A 26 0 40) (a4 : ∀ p, A 53 0 p) (a5 : ∀ p, A 54 0 p) : ok (f_X7_stepsOf M p0 p1) (fun r => IV A B r.1 ∧ True) := by
  unfold f_X7_stepsOf
  refine ok_gd ?_ (fun g1 => ?_)
  · exact vp_of (by decide) (by grind) (show p0 < (40 : Int32) by grind)
  have g1 := vp_to (by decide) g1
  have g1 : (0 : Int32) ≤ p0 ∧ p0 < (40 : Int32) := g1
  refine ok_ite (fun q2 => ?_) (fun q2 => ?_)
  · refine ok_gd ?_ (fun g3 => ?_)
    · have c4 : (0 : Int32) ≤ (M.1 43 0 (p0).toNatClampNeg) ∧ (M.1 43 0 (p0).toNatClampNeg) ≤ (1 : Int32) := hM.at1 43 0 ((p0).toNatClampNeg)
      exact vp_of (by decide) (by grind) (show (((5 : Int32) * p0) + p1) < (200 : Int32) by grind)
    have g3 := vp_to (by decide) g3
    have g3 : (0 : Int32) ≤ (((5 : Int32) * p0) + p1) ∧ (((5 : Int32) * p0) + p1) < (200 : Int32) := g3
    exact ok_some ⟨hM, trivial⟩
  · refine ok_gd ?_ (fun g5 => ?_)
    · have c6 : (0 : Int32) ≤ (M.1 43 0 (p0).toNatClampNeg) ∧ (M.1 43 0 (p0).toNatClampNeg) ≤ (1 : Int32) := hM.at1 43 0 ((p0).toNatClampNeg)
      exact vp_of (by decide) (by grind) (show p0 < (40 : Int32) by grind)
    have g5 := vp_to (by decide) g5
    have g5 : (0 : Int32) ≤ p0 ∧ p0 < (40 : Int32) := g5
    have p7 : (0 : Int32) ≤ p0 ∧ p0 ≤ (40 : Int32) := by
      have c8 : (0 : Int32) ≤ (M.1 43 0 (p0).toNatClampNeg) ∧ (M.1 43 0 (p0).toNatClampNeg) ≤ (1 : Int32) := hM.at1 43 0 ((p0).toNatClampNeg)
      exact ⟨by grind, by grind⟩
    have p9 : (0 : Int32) ≤ (((5 : Int32) * (M.1 40 0 (p0).toNatClampNeg)) + p1) ∧ (((5 : Int32) * (M.1 40 0 (p0).toNatClampNeg)) + p1) ≤ (39 : Int32) := by
      have c10 : (0 : Int32) ≤ (M.1 40 0 (p0).toNatClampNeg) ∧ (M.1 40 0 (p0).toNatClampNeg) ≤ (7 : Int32) := hM.at1 40 0 ((p0).toNatClampNeg)
      have c11 : (0 : Int32) ≤ (M.1 43 0 (p0).toNatClampNeg) ∧ (M.1 43 0 (p0).toNatClampNeg) ≤ (1 : Int32) := hM.at1 43 0 ((p0).toNatClampNeg)
      exact ⟨by grind, by grind⟩
    refine ok_b1 (s_X7_runs M hM p0 p7 (((5 : Int32) * (M.1 40 0 (p0).toNatClampNeg)) + p1) p9 (a1) (a2) (a3) (fun p => a4 p) (fun p => a5 p)) (fun M5 v4 w12 => ?_)
    have hM5 : IV A B M5 := w12.1
    have w13 : (101 : Int32) ≤ v4 ∧ v4 ≤ (122 : Int32) := w12.2
    refine ok_ite (fun q14 => ?_) (fun q14 => ?_)
    · exact ok_some ⟨hM5, trivial⟩
    · exact ok_some ⟨hM5, trivial⟩
theorem s_X7_loses_J52 {A : Nat → Nat → Nat → Prop} {B : SS} {n : Nat} (rc : Int32 → SS → (SS → Option (SS × Unit)) → Option (SS × Unit)) (hrc : ∀ (v5 : Int32) (M6 : SS) (k3 : (SS → Option (SS × Unit))), (FU v5 5 n) → ((0 : Int32) ≤ v5 ∧ v5 ≤ (5 : Int32)) → (IV A B M6) → (∀ (k_0 : SS), (IV A B k_0) → ok (k3 k_0) (fun r => IV A B r.1 ∧ ((r.1.1 43 0 (p0).toNatClampNeg) = 0))) → ok (rc v5 M6 k3) (fun r => IV A B r.1 ∧ ((r.1.1 43 0 (p0).toNatClampNeg) = 0))) (k3 : SS → Option (SS × Unit)) (hk : ∀ (k_0 : SS), (IV A B k_0) → ok (k3 k_0) (fun r => IV A B r.1 ∧ ((r.1.1 43 0 (p0).toNatClampNeg) = 0))) (v12 : Int32) (iv12 : (0 : Int32) ≤ v12 ∧ v12 ≤ (199 : Int32)) (v2 : Int32) (iv2 : (0 : Int32) ≤ v2 ∧ v2 ≤ (7 : Int32)) (v5 : Int32) (iv5 : (0 : Int32) ≤ v5 ∧ v5 ≤ (4 : Int32)) (v14 : Int32) (M15 : SS) (hM15 : IV A B M15) (a1 : A 44 0 (v12).toNatClampNeg) (a2 : A 45 0 (v12).toNatClampNeg) (hF : FU v5 5 (n + 1)) : ok (f_X7_loses_J52 rc k3 v12 v2 v5 v14 M15) (fun r => IV A B r.1 ∧ ((r.1.1 43 0 (p0).toNatClampNeg) = 0)) := by
  unfold f_X7_loses_J52
  refine ok_gd ?_ (fun g1 => ?_)
  · exact vp_of (by decide) (by grind) (show v12 < (200 : Int32) by grind)
  have g1 := vp_to (by decide) g1
  have g1 : (0 : Int32) ≤ v12 ∧ v12 < (200 : Int32) := g1
  refine ok_lq (fun M18 e2 => ?_)
  have hM18 : IV A B M18 := by rw [e2]; exact hM15.u1f rfl (a1) rfl
  refine ok_gd ?_ (fun g3 => ?_)
  · exact vp_of (by decide) (by grind) (show (((5 : Int32) * v2) + v5) < (40 : Int32) by grind)
  have g3 := vp_to (by decide) g3
  have g3 : (0 : Int32) ≤ (((5 : Int32) * v2) + v5) ∧ (((5 : Int32) * v2) + v5) < (40 : Int32) := g3
  refine ok_gd ?_ (fun g4 => ?_)
  · exact vp_of (by decide) (by grind) (show v12 < (200 : Int32) by grind)
  have g4 := vp_to (by decide) g4
  have g4 : (0 : Int32) ≤ v12 ∧ v12 < (200 : Int32) := g4
  refine ok_lq (fun M21 e5 => ?_)
  have hM21 : IV A B M21 := by rw [e5]; exact hM18.u1f rfl (a2) rfl
  have p6 : FU (v5 + (1 : Int32)) 5 _ := by
    exact FU.step hF (by grind)
  have p7 : (0 : Int32) ≤ (v5 + (1 : Int32)) ∧ (v5 + (1 : Int32)) ≤ (5 : Int32) := by
    exact ⟨by grind, by grind⟩
  exact hrc (v5 + (1 : Int32)) M21 k3 p6 p7 hM21 hk
theorem s_X7_loses_L10 {A : Nat → Nat → Nat → Prop} {B : SS} (p0 : Int32) (ip0 : (0 : Int32) ≤ p0 ∧ p0 ≤ (39 : Int32)) (v2 : Int32) (iv2 : (0 : Int32) ≤ v2 ∧ v2 ≤ (7 : Int32)) (a1 : A 26 0 38) (a2 : A 26 0 39) (a3 : A 26 0 40) (a4 : ∀ p, A 44 0 p) (a5 : ∀ p, A 45 0 p) (a6 : ∀ p, A 53 0 p) (a7 : ∀ p, A 54 0 p) : ∀ (n : Nat), ∀ (v5 : Int32) (M6 : SS) (k3 : (SS → Option (SS × Unit))), (FU v5 5 n) → ((0 : Int32) ≤ v5 ∧ v5 ≤ (5 : Int32)) → (IV A B M6) → (∀ (k_0 : SS), (IV A B k_0) → ok (k3 k_0) (fun r => IV A B r.1 ∧ ((r.1.1 43 0 (p0).toNatClampNeg) = 0))) → ok (f_X7_loses_L10 p0 v2 n v5 M6 k3) (fun r => IV A B r.1 ∧ ((r.1.1 43 0 (p0).toNatClampNeg) = 0)) := by
  intro n
  induction n with
  | zero =>
    intro v5 M6 k3 hF iv5 hM6 hk
    exact (FU.stop hF (show v5 ≤ (5 : Int32) by grind)).elim
  | succ n ih =>
    intro v5 M6 k3 hF iv5 hM6 hk
    rw [f_X7_loses_L10]
    refine ok_ite (fun q1 => ?_) (fun q1 => ?_)
    · exact hk M6 hM6
    · refine ok_lq (fun v12 e2 => ?_)
      refine ok_gd ?_ (fun g3 => ?_)
      · exact vp_of (by decide) (by grind) (show v2 < (8 : Int32) by grind)
      have g3 := vp_to (by decide) g3
      have g3 : (0 : Int32) ≤ v2 ∧ v2 < (8 : Int32) := g3
      refine ok_ite (fun q4 => ?_) (fun q4 => ?_)
      · have p5 : (0 : Int32) ≤ v12 ∧ v12 ≤ (199 : Int32) := by
          exact ⟨by grind, by grind⟩
        have p6 : (0 : Int32) ≤ v2 ∧ v2 ≤ (7 : Int32) := by
          have c7 : (0 : Int32) ≤ (M6.1 33 0 (v2).toNatClampNeg) ∧ (M6.1 33 0 (v2).toNatClampNeg) ≤ (5 : Int32) := hM6.at1 33 0 ((v2).toNatClampNeg)
          exact ⟨by grind, by grind⟩
        have p8 : (0 : Int32) ≤ v5 ∧ v5 ≤ (4 : Int32) := by
          have c9 : (0 : Int32) ≤ (M6.1 33 0 (v2).toNatClampNeg) ∧ (M6.1 33 0 (v2).toNatClampNeg) ≤ (5 : Int32) := hM6.at1 33 0 ((v2).toNatClampNeg)
          exact ⟨by grind, by grind⟩
        exact s_X7_loses_J52 (n := _) (f_X7_loses_L10 p0 v2 n) ih k3 hk v12 p5 v2 p6 v5 p8 ((-1) : Int32) M6 hM6 (a4 ((v12).toNatClampNeg)) (a5 ((v12).toNatClampNeg)) hF
      · have p10 : (0 : Int32) ≤ p0 ∧ p0 ≤ (39 : Int32) := by
          exact ⟨by grind, by grind⟩
        have p11 : (0 : Int32) ≤ v5 ∧ v5 ≤ (4 : Int32) := by
          have c12 : (0 : Int32) ≤ (M6.1 33 0 (v2).toNatClampNeg) ∧ (M6.1 33 0 (v2).toNatClampNeg) ≤ (5 : Int32) := hM6.at1 33 0 ((v2).toNatClampNeg)
          exact ⟨by grind, by grind⟩
        refine ok_b1 (s_X7_stepsOf M6 hM6 p0 p10 v5 p11 (a1) (a2) (a3) (fun p => a6 p) (fun p => a7 p)) (fun M24 v23 w13 => ?_)
        have hM24 : IV A B M24 := w13.1
        have p14 : (0 : Int32) ≤ v12 ∧ v12 ≤ (199 : Int32) := by
          exact ⟨by grind, by grind⟩
        have p15 : (0 : Int32) ≤ v2 ∧ v2 ≤ (7 : Int32) := by
          have c16 : (0 : Int32) ≤ (M6.1 33 0 (v2).toNatClampNeg) ∧ (M6.1 33 0 (v2).toNatClampNeg) ≤ (5 : Int32) := hM6.at1 33 0 ((v2).toNatClampNeg)
          exact ⟨by grind, by grind⟩
        have p17 : (0 : Int32) ≤ v5 ∧ v5 ≤ (4 : Int32) := by
          have c18 : (0 : Int32) ≤ (M6.1 33 0 (v2).toNatClampNeg) ∧ (M6.1 33 0 (v2).toNatClampNeg) ≤ (5 : Int32) := hM6.at1 33 0 ((v2).toNatClampNeg)
          exact ⟨by grind, by grind⟩
        exact s_X7_loses_J52 (n := _) (f_X7_loses_L10 p0 v2 n) ih k3 hk v12 p14 v2 p15 v5 p17 v23 M24 hM24 (a4 ((v12).toNatClampNeg)) (a5 ((v12).toNatClampNeg)) hF