theorem s_X7_runs_J162 {A : Nat → Nat → Nat → Prop} {B : SS} (v26 : Int32) (iv26 : (0 : Int32) ≤ v26 ∧ v26 ≤ (65535 : Int32)) (M8 : SS) (hM8 : IV A B M8) (v27 : Int32) (iv27 : (0 : Int32) ≤ v27 ∧ v27 ≤ (1 : Int32)) (p0 : Int32) (ip0 : (0 : Int32) ≤ p0 ∧ p0 ≤ (40 : Int32)) (v6 : Int32) (iv6 : (0 : Int32) ≤ v6 ∧ v6 ≤ (23 : Int32)) (v7 : Int32) (iv7 : (0 : Int32) ≤ v7 ∧ v7 ≤ (4 : Int32)) (p1 : Int32) (ip1 : (0 : Int32) ≤ p1 ∧ p1 ≤ (39 : Int32)) (x0 : isL v26) (x1 : (v27 = 0 ∧ ¬ v26 = 110 ∧ ¬ v26 = 105 ∧ ¬ v26 = 100) ∨ (v27 = 1 ∧ (v26 = 110 ∨ v26 = 105 ∨ v26 = 100))) (x2 : v7 ≤ (M8.1 34 0 (p1).toNatClampNeg)) (x3 : (M8.1 26 0 40) < (300 : Int32)) (x4 : (v26 = 43 ∨ v26 = 45 ∨ v26 = 42 ∨ v26 = 37 ∨ v26 = 115) → (2 : Int32) ≤ (M8.1 26 0 38)) (x5 : ¬ v26 = 110 → ¬ v26 = 105 → (1 : Int32) ≤ (M8.1 26 0 38)) (x6 : v26 = 105 → v7 < (M8.1 34 0 (p1).toNatClampNeg)) (x7 : v26 = 37 → ¬ (M8.1 53 0 (((M8.1 26 0 38) - (1 : Int32))).toNatClampNeg) = 0) (x8 : v27 = 1 → (M8.1 26 0 38) < (12 : Int32)) (a1 : A 26 0 38) (a2 : A 26 0 39) (a3 : A 26 0 40) (a4 : ∀ p, A 53 0 p) (a5 : ∀ p, A 54 0 p) {n : Nat} (rc : Int32 → Int32 → SS → (SS → Option (SS × Int32)) → Option (SS × Int32)) (hrc : ∀ (v6 : Int32) (v7 : Int32) (M8 : SS) (k4 : (SS → Option (SS × Int32))), (FU ((M8.1 26 0 40)) 300 n) → ((0 : Int32) ≤ v6 ∧ v6 ≤ (24 : Int32)) → ((0 : Int32) ≤ v7 ∧ v7 ≤ (4 : Int32)) → (IV A B M8) → (v7 ≤ (M8.1 34 0 (p1).toNatClampNeg)) → (∀ (k_0 : SS), (IV A B k_0) → ok (k4 k_0) (fun r => IV A B r.1 ∧ (101 : Int32) ≤ r.2 ∧ r.2 ≤ (122 : Int32))) → ok (rc v6 v7 M8 k4) (fun r => IV A B r.1 ∧ (101 : Int32) ≤ r.2 ∧ r.2 ≤ (122 : Int32))) (k4 : SS → Option (SS × Int32)) (hk : ∀ (k_0 : SS), (IV A B k_0) → ok (k4 k_0) (fun r => IV A B r.1 ∧ (101 : Int32) ≤ r.2 ∧ r.2 ≤ (122 : Int32))) (hF : FU ((M8.1 26 0 40)) 300 (n + 1)) : ok (f_X7_runs_J162 rc k4 v26 M8 v27 p0 v6 v7 p1) (fun r => IV A B r.1 ∧ (101 : Int32) ≤ r.2 ∧ r.2 ≤ (122 : Int32)) := by
  unfold f_X7_runs_J162
  refine ok_ite (fun q1 => ?_) (fun q1 => ?_)
  · refine ok_ite (fun q2 => ?_) (fun q2 => ?_)
    · have pf3 : (101 : Int32) ≤ (108 : Int32) ∧ (108 : Int32) ≤ (122 : Int32) := by
        exact ⟨by grind, by grind⟩
      exact ok_some ⟨hM8, pf3⟩
    · have pf4 : (0 : Int32) ≤ v27 ∧ v27 ≤ (1 : Int32) := by
        have c5 : (0 : Int32) ≤ (M8.1 26 0 38) ∧ (M8.1 26 0 38) ≤ (12 : Int32) := hM8.at1 26 0 38
        have c6 : (0 : Int32) ≤ (M8.1 34 0 (p1).toNatClampNeg) ∧ (M8.1 34 0 (p1).toNatClampNeg) ≤ (4 : Int32) := hM8.at1 34 0 ((p1).toNatClampNeg)
        exact ⟨by grind, by grind⟩
      have pf7 : (0 : Int32) ≤ v26 ∧ v26 ≤ (65535 : Int32) := by
        have c8 : (0 : Int32) ≤ (M8.1 26 0 38) ∧ (M8.1 26 0 38) ≤ (12 : Int32) := hM8.at1 26 0 38
        have c9 : (0 : Int32) ≤ (M8.1 34 0 (p1).toNatClampNeg) ∧ (M8.1 34 0 (p1).toNatClampNeg) ≤ (4 : Int32) := hM8.at1 34 0 ((p1).toNatClampNeg)
        exact ⟨by grind, by grind⟩
      have pf10 : (0 : Int32) ≤ p0 ∧ p0 ≤ (40 : Int32) := by
        exact ⟨by grind, by grind⟩
      have pf11 : (0 : Int32) ≤ v6 ∧ v6 ≤ (23 : Int32) := by
        exact ⟨by grind, by grind⟩
      have pf12 : (0 : Int32) ≤ v7 ∧ v7 ≤ (4 : Int32) := by
        have c13 : (0 : Int32) ≤ (M8.1 34 0 (p1).toNatClampNeg) ∧ (M8.1 34 0 (p1).toNatClampNeg) ≤ (4 : Int32) := hM8.at1 34 0 ((p1).toNatClampNeg)
        have c14 : (0 : Int32) ≤ (M8.1 26 0 38) ∧ (M8.1 26 0 38) ≤ (12 : Int32) := hM8.at1 26 0 38
        exact ⟨by grind, by grind⟩
      have pf15 : (0 : Int32) ≤ p1 ∧ p1 ≤ (39 : Int32) := by
        have c16 : (0 : Int32) ≤ (M8.1 34 0 (p1).toNatClampNeg) ∧ (M8.1 34 0 (p1).toNatClampNeg) ≤ (4 : Int32) := hM8.at1 34 0 ((p1).toNatClampNeg)
        have c17 : (0 : Int32) ≤ (M8.1 26 0 38) ∧ (M8.1 26 0 38) ≤ (12 : Int32) := hM8.at1 26 0 38
        exact ⟨by grind, by grind⟩
      have pf18 : isL v26 := by
        have c19 : (0 : Int32) ≤ (M8.1 26 0 38) ∧ (M8.1 26 0 38) ≤ (12 : Int32) := hM8.at1 26 0 38
        have c20 : (0 : Int32) ≤ (M8.1 34 0 (p1).toNatClampNeg) ∧ (M8.1 34 0 (p1).toNatClampNeg) ≤ (4 : Int32) := hM8.at1 34 0 ((p1).toNatClampNeg)
        grind [isL]
      have pf21 : (v27 = 0 ∧ ¬ v26 = 110 ∧ ¬ v26 = 105 ∧ ¬ v26 = 100) ∨ (v27 = 1 ∧ (v26 = 110 ∨ v26 = 105 ∨ v26 = 100)) := by
        have c22 : (0 : Int32) ≤ (M8.1 26 0 38) ∧ (M8.1 26 0 38) ≤ (12 : Int32) := hM8.at1 26 0 38
        have c23 : (0 : Int32) ≤ (M8.1 34 0 (p1).toNatClampNeg) ∧ (M8.1 34 0 (p1).toNatClampNeg) ≤ (4 : Int32) := hM8.at1 34 0 ((p1).toNatClampNeg)
        grind [isL]
      have pf24 : v7 ≤ (M8.1 34 0 (p1).toNatClampNeg) := by
        have c25 : (0 : Int32) ≤ (M8.1 34 0 (p1).toNatClampNeg) ∧ (M8.1 34 0 (p1).toNatClampNeg) ≤ (4 : Int32) := hM8.at1 34 0 ((p1).toNatClampNeg)
        have c26 : (0 : Int32) ≤ (M8.1 26 0 38) ∧ (M8.1 26 0 38) ≤ (12 : Int32) := hM8.at1 26 0 38
        grind [isL]
      have pf27 : (M8.1 26 0 40) < (300 : Int32) := by
        have c28 : (0 : Int32) ≤ (M8.1 26 0 40) ∧ (M8.1 26 0 40) ≤ (300 : Int32) := hM8.at1 26 0 40
        grind [isL]
      have pf29 : (v26 = 43 ∨ v26 = 45 ∨ v26 = 42 ∨ v26 = 37 ∨ v26 = 115) → (2 : Int32) ≤ (M8.1 26 0 38) := by
        have c30 : (0 : Int32) ≤ (M8.1 26 0 38) ∧ (M8.1 26 0 38) ≤ (12 : Int32) := hM8.at1 26 0 38
        have c31 : (0 : Int32) ≤ (M8.1 34 0 (p1).toNatClampNeg) ∧ (M8.1 34 0 (p1).toNatClampNeg) ≤ (4 : Int32) := hM8.at1 34 0 ((p1).toNatClampNeg)
        grind [isL]
      have pf32 : ¬ v26 = 110 → ¬ v26 = 105 → (1 : Int32) ≤ (M8.1 26 0 38) := by
        have c33 : (0 : Int32) ≤ (M8.1 26 0 38) ∧ (M8.1 26 0 38) ≤ (12 : Int32) := hM8.at1 26 0 38
        have c34 : (0 : Int32) ≤ (M8.1 34 0 (p1).toNatClampNeg) ∧ (M8.1 34 0 (p1).toNatClampNeg) ≤ (4 : Int32) := hM8.at1 34 0 ((p1).toNatClampNeg)
        grind [isL]
      have pf35 : v26 = 105 → v7 < (M8.1 34 0 (p1).toNatClampNeg) := by
        have c36 : (0 : Int32) ≤ (M8.1 34 0 (p1).toNatClampNeg) ∧ (M8.1 34 0 (p1).toNatClampNeg) ≤ (4 : Int32) := hM8.at1 34 0 ((p1).toNatClampNeg)
        have c37 : (0 : Int32) ≤ (M8.1 26 0 38) ∧ (M8.1 26 0 38) ≤ (12 : Int32) := hM8.at1 26 0 38
        grind [isL]
      have pf38 : v26 = 37 → ¬ (M8.1 53 0 (((M8.1 26 0 38) - (1 : Int32))).toNatClampNeg) = 0 := by
        have c39 : (0 : Int32) ≤ (M8.1 26 0 38) ∧ (M8.1 26 0 38) ≤ (12 : Int32) := hM8.at1 26 0 38
        have c40 : (0 : Int32) ≤ (M8.1 34 0 (p1).toNatClampNeg) ∧ (M8.1 34 0 (p1).toNatClampNeg) ≤ (4 : Int32) := hM8.at1 34 0 ((p1).toNatClampNeg)
        grind [isL]
      have pf41 : v27 = 1 → (M8.1 26 0 38) < (12 : Int32) := by
        have c42 : (0 : Int32) ≤ (M8.1 26 0 38) ∧ (M8.1 26 0 38) ≤ (12 : Int32) := hM8.at1 26 0 38
        have c43 : (0 : Int32) ≤ (M8.1 34 0 (p1).toNatClampNeg) ∧ (M8.1 34 0 (p1).toNatClampNeg) ≤ (4 : Int32) := hM8.at1 34 0 ((p1).toNatClampNeg)
        grind [isL]
      have pf44 : v26 = 111 → (M8.1 26 0 39) < (6 : Int32) := by
        have c45 : (0 : Int32) ≤ (M8.1 26 0 39) ∧ (M8.1 26 0 39) ≤ (6 : Int32) := hM8.at1 26 0 39
        have c46 : (0 : Int32) ≤ (M8.1 26 0 38) ∧ (M8.1 26 0 38) ≤ (12 : Int32) := hM8.at1 26 0 38
        have c47 : (0 : Int32) ≤ (M8.1 34 0 (p1).toNatClampNeg) ∧ (M8.1 34 0 (p1).toNatClampNeg) ≤ (4 : Int32) := hM8.at1 34 0 ((p1).toNatClampNeg)
        grind [isL]
      exact s_X7_runs_J181 M8 hM8 v27 pf4 v26 pf7 p0 pf10 v6 pf11 v7 pf12 p1 pf15 pf18 pf21 pf24 pf27 pf29 pf32 pf35 pf38 pf41 pf44 (a1) (a2) (a3) (fun p => a4 p) (fun p => a5 p) rc hrc k4 hk hF
  · have pf48 : (0 : Int32) ≤ v27 ∧ v27 ≤ (1 : Int32) := by
      have c49 : (0 : Int32) ≤ (M8.1 26 0 38) ∧ (M8.1 26 0 38) ≤ (12 : Int32) := hM8.at1 26 0 38
      have c50 : (0 : Int32) ≤ (M8.1 34 0 (p1).toNatClampNeg) ∧ (M8.1 34 0 (p1).toNatClampNeg) ≤ (4 : Int32) := hM8.at1 34 0 ((p1).toNatClampNeg)
      exact ⟨by grind, by grind⟩
    have pf51 : (0 : Int32) ≤ v26 ∧ v26 ≤ (65535 : Int32) := by
      have c52 : (0 : Int32) ≤ (M8.1 26 0 38) ∧ (M8.1 26 0 38) ≤ (12 : Int32) := hM8.at1 26 0 38
      have c53 : (0 : Int32) ≤ (M8.1 34 0 (p1).toNatClampNeg) ∧ (M8.1 34 0 (p1).toNatClampNeg) ≤ (4 : Int32) := hM8.at1 34 0 ((p1).toNatClampNeg)
      exact ⟨by grind, by grind⟩
    have pf54 : (0 : Int32) ≤ p0 ∧ p0 ≤ (40 : Int32) := by
      exact ⟨by grind, by grind⟩
    have pf55 : (0 : Int32) ≤ v6 ∧ v6 ≤ (23 : Int32) := by
      exact ⟨by grind, by grind⟩
    have pf56 : (0 : Int32) ≤ v7 ∧ v7 ≤ (4 : Int32) := by
      have c57 : (0 : Int32) ≤ (M8.1 34 0 (p1).toNatClampNeg) ∧ (M8.1 34 0 (p1).toNatClampNeg) ≤ (4 : Int32) := hM8.at1 34 0 ((p1).toNatClampNeg)
      have c58 : (0 : Int32) ≤ (M8.1 26 0 38) ∧ (M8.1 26 0 38) ≤ (12 : Int32) := hM8.at1 26 0 38
      exact ⟨by grind, by grind⟩
    have pf59 : (0 : Int32) ≤ p1 ∧ p1 ≤ (39 : Int32) := by
      have c60 : (0 : Int32) ≤ (M8.1 34 0 (p1).toNatClampNeg) ∧ (M8.1 34 0 (p1).toNatClampNeg) ≤ (4 : Int32) := hM8.at1 34 0 ((p1).toNatClampNeg)
      have c61 : (0 : Int32) ≤ (M8.1 26 0 38) ∧ (M8.1 26 0 38) ≤ (12 : Int32) := hM8.at1 26 0 38
      exact ⟨by grind, by grind⟩
    have pf62 : isL v26 := by
      have c63 : (0 : Int32) ≤ (M8.1 26 0 38) ∧ (M8.1 26 0 38) ≤ (12 : Int32) := hM8.at1 26 0 38
      have c64 : (0 : Int32) ≤ (M8.1 34 0 (p1).toNatClampNeg) ∧ (M8.1 34 0 (p1).toNatClampNeg) ≤ (4 : Int32) := hM8.at1 34 0 ((p1).toNatClampNeg)
      grind [isL]
    have pf65 : (v27 = 0 ∧ ¬ v26 = 110 ∧ ¬ v26 = 105 ∧ ¬ v26 = 100) ∨ (v27 = 1 ∧ (v26 = 110 ∨ v26 = 105 ∨ v26 = 100)) := by
      have c66 : (0 : Int32) ≤ (M8.1 26 0 38) ∧ (M8.1 26 0 38) ≤ (12 : Int32) := hM8.at1 26 0 38
      have c67 : (0 : Int32) ≤ (M8.1 34 0 (p1).toNatClampNeg) ∧ (M8.1 34 0 (p1).toNatClampNeg) ≤ (4 : Int32) := hM8.at1 34 0 ((p1).toNatClampNeg)
      grind [isL]
    have pf68 : v7 ≤ (M8.1 34 0 (p1).toNatClampNeg) := by
      have c69 : (0 : Int32) ≤ (M8.1 34 0 (p1).toNatClampNeg) ∧ (M8.1 34 0 (p1).toNatClampNeg) ≤ (4 : Int32) := hM8.at1 34 0 ((p1).toNatClampNeg)
      have c70 : (0 : Int32) ≤ (M8.1 26 0 38) ∧ (M8.1 26 0 38) ≤ (12 : Int32) := hM8.at1 26 0 38
      grind [isL]
    have pf71 : (M8.1 26 0 40) < (300 : Int32) := by
      have c72 : (0 : Int32) ≤ (M8.1 26 0 40) ∧ (M8.1 26 0 40) ≤ (300 : Int32) := hM8.at1 26 0 40
      grind [isL]
    have pf73 : (v26 = 43 ∨ v26 = 45 ∨ v26 = 42 ∨ v26 = 37 ∨ v26 = 115) → (2 : Int32) ≤ (M8.1 26 0 38) := by
      have c74 : (0 : Int32) ≤ (M8.1 26 0 38) ∧ (M8.1 26 0 38) ≤ (12 : Int32) := hM8.at1 26 0 38
      have c75 : (0 : Int32) ≤ (M8.1 34 0 (p1).toNatClampNeg) ∧ (M8.1 34 0 (p1).toNatClampNeg) ≤ (4 : Int32) := hM8.at1 34 0 ((p1).toNatClampNeg)
      grind [isL]
    have pf76 : ¬ v26 = 110 → ¬ v26 = 105 → (1 : Int32) ≤ (M8.1 26 0 38) := by
      have c77 : (0 : Int32) ≤ (M8.1 26 0 38) ∧ (M8.1 26 0 38) ≤ (12 : Int32) := hM8.at1 26 0 38
      have c78 : (0 : Int32) ≤ (M8.1 34 0 (p1).toNatClampNeg) ∧ (M8.1 34 0 (p1).toNatClampNeg) ≤ (4 : Int32) := hM8.at1 34 0 ((p1).toNatClampNeg)
      grind [isL]
    have pf79 : v26 = 105 → v7 < (M8.1 34 0 (p1).toNatClampNeg) := by
      have c80 : (0 : Int32) ≤ (M8.1 34 0 (p1).toNatClampNeg) ∧ (M8.1 34 0 (p1).toNatClampNeg) ≤ (4 : Int32) := hM8.at1 34 0 ((p1).toNatClampNeg)
      have c81 : (0 : Int32) ≤ (M8.1 26 0 38) ∧ (M8.1 26 0 38) ≤ (12 : Int32) := hM8.at1 26 0 38
      grind [isL]
    have pf82 : v26 = 37 → ¬ (M8.1 53 0 (((M8.1 26 0 38) - (1 : Int32))).toNatClampNeg) = 0 := by
      have c83 : (0 : Int32) ≤ (M8.1 26 0 38) ∧ (M8.1 26 0 38) ≤ (12 : Int32) := hM8.at1 26 0 38
      have c84 : (0 : Int32) ≤ (M8.1 34 0 (p1).toNatClampNeg) ∧ (M8.1 34 0 (p1).toNatClampNeg) ≤ (4 : Int32) := hM8.at1 34 0 ((p1).toNatClampNeg)
      grind [isL]
    have pf85 : v27 = 1 → (M8.1 26 0 38) < (12 : Int32) := by
      have c86 : (0 : Int32) ≤ (M8.1 26 0 38) ∧ (M8.1 26 0 38) ≤ (12 : Int32) := hM8.at1 26 0 38
      have c87 : (0 : Int32) ≤ (M8.1 34 0 (p1).toNatClampNeg) ∧ (M8.1 34 0 (p1).toNatClampNeg) ≤ (4 : Int32) := hM8.at1 34 0 ((p1).toNatClampNeg)
      grind [isL]
    have pf88 : v26 = 111 → (M8.1 26 0 39) < (6 : Int32) := by
      have c89 : (0 : Int32) ≤ (M8.1 26 0 39) ∧ (M8.1 26 0 39) ≤ (6 : Int32) := hM8.at1 26 0 39
      have c90 : (0 : Int32) ≤ (M8.1 26 0 38) ∧ (M8.1 26 0 38) ≤ (12 : Int32) := hM8.at1 26 0 38
      have c91 : (0 : Int32) ≤ (M8.1 34 0 (p1).toNatClampNeg) ∧ (M8.1 34 0 (p1).toNatClampNeg) ≤ (4 : Int32) := hM8.at1 34 0 ((p1).toNatClampNeg)
      grind [isL]
    exact s_X7_runs_J181 M8 hM8 v27 pf48 v26 pf51 p0 pf54 v6 pf55 v7 pf56 p1 pf59 pf62 pf65 pf68 pf71 pf73 pf76 pf79 pf82 pf85 pf88 (a1) (a2) (a3) (fun p => a4 p) (fun p => a5 p) rc hrc k4 hk hF
theorem s_X7_runs_J145 {A : Nat → Nat → Nat → Prop} {B : SS} (v27 : Int32) (iv27 : (0 : Int32) ≤ v27 ∧ v27 ≤ (1 : Int32)) (v26 : Int32) (iv26 : (0 : Int32) ≤ v26 ∧ v26 ≤ (65535 : Int32)) (M8 : SS) (hM8 : IV A B M8) (p0 : Int32) (ip0 : (0 : Int32) ≤ p0 ∧ p0 ≤ (40 : Int32)) (v6 : Int32) (iv6 : (0 : Int32) ≤ v6 ∧ v6 ≤ (23 : Int32)) (v7 : Int32) (iv7 : (0 : Int32) ≤ v7 ∧ v7 ≤ (4 : Int32)) (p1 : Int32) (ip1 : (0 : Int32) ≤ p1 ∧ p1 ≤ (39 : Int32)) (x0 : isL v26) (x1 : (v27 = 0 ∧ ¬ v26 = 110 ∧ ¬ v26 = 105 ∧ ¬ v26 = 100) ∨ (v27 = 1 ∧ (v26 = 110 ∨ v26 = 105 ∨ v26 = 100))) (x2 : v7 ≤ (M8.1 34 0 (p1).toNatClampNeg)) (x3 : (M8.1 26 0 40) < (300 : Int32)) (x4 : (v26 = 43 ∨ v26 = 45 ∨ v26 = 42 ∨ v26 = 37 ∨ v26 = 115) → (2 : Int32) ≤ (M8.1 26 0 38)) (x5 : ¬ v26 = 110 → ¬ v26 = 105 → (1 : Int32) ≤ (M8.1 26 0 38)) (x6 : v26 = 105 → v7 < (M8.1 34 0 (p1).toNatClampNeg)) (x7 : v26 = 37 → ¬ (M8.1 53 0 (((M8.1 26 0 38) - (1 : Int32))).toNatClampNeg) = 0) (a1 : A 26 0 38) (a2 : A 26 0 39) (a3 : A 26 0 40) (a4 : ∀ p, A 53 0 p) (a5 : ∀ p, A 54 0 p) {n : Nat} (rc : Int32 → Int32 → SS → (SS → Option (SS × Int32)) → Option (SS × Int32)) (hrc : ∀ (v6 : Int32) (v7 : Int32) (M8 : SS) (k4 : (SS → Option (SS × Int32))), (FU ((M8.1 26 0 40)) 300 n) → ((0 : Int32) ≤ v6 ∧ v6 ≤ (24 : Int32)) → ((0 : Int32) ≤ v7 ∧ v7 ≤ (4 : Int32)) → (IV A B M8) → (v7 ≤ (M8.1 34 0 (p1).toNatClampNeg)) → (∀ (k_0 : SS), (IV A B k_0) → ok (k4 k_0) (fun r => IV A B r.1 ∧ (101 : Int32) ≤ r.2 ∧ r.2 ≤ (122 : Int32))) → ok (rc v6 v7 M8 k4) (fun r => IV A B r.1 ∧ (101 : Int32) ≤ r.2 ∧ r.2 ≤ (122 : Int32))) (k4 : SS → Option (SS × Int32)) (hk : ∀ (k_0 : SS), (IV A B k_0) → ok (k4 k_0) (fun r => IV A B r.1 ∧ (101 : Int32) ≤ r.2 ∧ r.2 ≤ (122 : Int32))) (hF : FU ((M8.1 26 0 40)) 300 (n + 1)) : ok (f_X7_runs_J145 rc k4 v27 v26 M8 p0 v6 v7 p1) (fun r => IV A B r.1 ∧ (101 : Int32) ≤ r.2 ∧ r.2 ≤ (122 : Int32)) := by
  unfold f_X7_runs_J145
  refine ok_ite (fun q1 => ?_) (fun q1 => ?_)
  · have pf2 : (0 : Int32) ≤ v26 ∧ v26 ≤ (65535 : Int32) := by
      have c3 : (0 : Int32) ≤ (M8.1 26 0 38) ∧ (M8.1 26 0 38) ≤ (12 : Int32) := hM8.at1 26 0 38
      have c4 : (0 : Int32) ≤ (M8.1 34 0 (p1).toNatClampNeg) ∧ (M8.1 34 0 (p1).toNatClampNeg) ≤ (4 : Int32) := hM8.at1 34 0 ((p1).toNatClampNeg)
      exact ⟨by grind, by grind⟩
    have pf5 : (0 : Int32) ≤ v27 ∧ v27 ≤ (1 : Int32) := by
      have c6 : (0 : Int32) ≤ (M8.1 26 0 38) ∧ (M8.1 26 0 38) ≤ (12 : Int32) := hM8.at1 26 0 38
      have c7 : (0 : Int32) ≤ (M8.1 34 0 (p1).toNatClampNeg) ∧ (M8.1 34 0 (p1).toNatClampNeg) ≤ (4 : Int32) := hM8.at1 34 0 ((p1).toNatClampNeg)
      exact ⟨by grind, by grind⟩
    have pf8 : (0 : Int32) ≤ p0 ∧ p0 ≤ (40 : Int32) := by
      exact ⟨by grind, by grind⟩
    have pf9 : (0 : Int32) ≤ v6 ∧ v6 ≤ (23 : Int32) := by
      exact ⟨by grind, by grind⟩
    have pf10 : (0 : Int32) ≤ v7 ∧ v7 ≤ (4 : Int32) := by
      have c11 : (0 : Int32) ≤ (M8.1 34 0 (p1).toNatClampNeg) ∧ (M8.1 34 0 (p1).toNatClampNeg) ≤ (4 : Int32) := hM8.at1 34 0 ((p1).toNatClampNeg)
      have c12 : (0 : Int32) ≤ (M8.1 26 0 38) ∧ (M8.1 26 0 38) ≤ (12 : Int32) := hM8.at1 26 0 38
      exact ⟨by grind, by grind⟩
    have pf13 : (0 : Int32) ≤ p1 ∧ p1 ≤ (39 : Int32) := by
      have c14 : (0 : Int32) ≤ (M8.1 34 0 (p1).toNatClampNeg) ∧ (M8.1 34 0 (p1).toNatClampNeg) ≤ (4 : Int32) := hM8.at1 34 0 ((p1).toNatClampNeg)
      have c15 : (0 : Int32) ≤ (M8.1 26 0 38) ∧ (M8.1 26 0 38) ≤ (12 : Int32) := hM8.at1 26 0 38
      exact ⟨by grind, by grind⟩
    have pf16 : isL v26 := by
      have c17 : (0 : Int32) ≤ (M8.1 26 0 38) ∧ (M8.1 26 0 38) ≤ (12 : Int32) := hM8.at1 26 0 38
      have c18 : (0 : Int32) ≤ (M8.1 34 0 (p1).toNatClampNeg) ∧ (M8.1 34 0 (p1).toNatClampNeg) ≤ (4 : Int32) := hM8.at1 34 0 ((p1).toNatClampNeg)
      grind [isL]
    have pf19 : (v27 = 0 ∧ ¬ v26 = 110 ∧ ¬ v26 = 105 ∧ ¬ v26 = 100) ∨ (v27 = 1 ∧ (v26 = 110 ∨ v26 = 105 ∨ v26 = 100)) := by
      have c20 : (0 : Int32) ≤ (M8.1 26 0 38) ∧ (M8.1 26 0 38) ≤ (12 : Int32) := hM8.at1 26 0 38
      have c21 : (0 : Int32) ≤ (M8.1 34 0 (p1).toNatClampNeg) ∧ (M8.1 34 0 (p1).toNatClampNeg) ≤ (4 : Int32) := hM8.at1 34 0 ((p1).toNatClampNeg)
      grind [isL]
    have pf22 : v7 ≤ (M8.1 34 0 (p1).toNatClampNeg) := by
      have c23 : (0 : Int32) ≤ (M8.1 34 0 (p1).toNatClampNeg) ∧ (M8.1 34 0 (p1).toNatClampNeg) ≤ (4 : Int32) := hM8.at1 34 0 ((p1).toNatClampNeg)
      have c24 : (0 : Int32) ≤ (M8.1 26 0 38) ∧ (M8.1 26 0 38) ≤ (12 : Int32) := hM8.at1 26 0 38
      grind [isL]
    have pf25 : (M8.1 26 0 40) < (300 : Int32) := by
      have c26 : (0 : Int32) ≤ (M8.1 26 0 40) ∧ (M8.1 26 0 40) ≤ (300 : Int32) := hM8.at1 26 0 40
      grind [isL]
    have pf27 : (v26 = 43 ∨ v26 = 45 ∨ v26 = 42 ∨ v26 = 37 ∨ v26 = 115) → (2 : Int32) ≤ (M8.1 26 0 38) := by
      have c28 : (0 : Int32) ≤ (M8.1 26 0 38) ∧ (M8.1 26 0 38) ≤ (12 : Int32) := hM8.at1 26 0 38
      have c29 : (0 : Int32) ≤ (M8.1 34 0 (p1).toNatClampNeg) ∧ (M8.1 34 0 (p1).toNatClampNeg) ≤ (4 : Int32) := hM8.at1 34 0 ((p1).toNatClampNeg)
      grind [isL]
    have pf30 : ¬ v26 = 110 → ¬ v26 = 105 → (1 : Int32) ≤ (M8.1 26 0 38) := by
      have c31 : (0 : Int32) ≤ (M8.1 26 0 38) ∧ (M8.1 26 0 38) ≤ (12 : Int32) := hM8.at1 26 0 38
      have c32 : (0 : Int32) ≤ (M8.1 34 0 (p1).toNatClampNeg) ∧ (M8.1 34 0 (p1).toNatClampNeg) ≤ (4 : Int32) := hM8.at1 34 0 ((p1).toNatClampNeg)
      grind [isL]
    have pf33 : v26 = 105 → v7 < (M8.1 34 0 (p1).toNatClampNeg) := by
      have c34 : (0 : Int32) ≤ (M8.1 34 0 (p1).toNatClampNeg) ∧ (M8.1 34 0 (p1).toNatClampNeg) ≤ (4 : Int32) := hM8.at1 34 0 ((p1).toNatClampNeg)
      have c35 : (0 : Int32) ≤ (M8.1 26 0 38) ∧ (M8.1 26 0 38) ≤ (12 : Int32) := hM8.at1 26 0 38
      grind [isL]
    have pf36 : v26 = 37 → ¬ (M8.1 53 0 (((M8.1 26 0 38) - (1 : Int32))).toNatClampNeg) = 0 := by
      have c37 : (0 : Int32) ≤ (M8.1 26 0 38) ∧ (M8.1 26 0 38) ≤ (12 : Int32) := hM8.at1 26 0 38
      have c38 : (0 : Int32) ≤ (M8.1 34 0 (p1).toNatClampNeg) ∧ (M8.1 34 0 (p1).toNatClampNeg) ≤ (4 : Int32) := hM8.at1 34 0 ((p1).toNatClampNeg)
      grind [isL]
    have pf39 : v27 = 1 → (M8.1 26 0 38) < (12 : Int32) := by
      have c40 : (0 : Int32) ≤ (M8.1 26 0 38) ∧ (M8.1 26 0 38) ≤ (12 : Int32) := hM8.at1 26 0 38
      have c41 : (0 : Int32) ≤ (M8.1 34 0 (p1).toNatClampNeg) ∧ (M8.1 34 0 (p1).toNatClampNeg) ≤ (4 : Int32) := hM8.at1 34 0 ((p1).toNatClampNeg)
      grind [isL]
    exact s_X7_runs_J162 v26 pf2 M8 hM8 v27 pf5 p0 pf8 v6 pf9 v7 pf10 p1 pf13 pf16 pf19 pf22 pf25 pf27 pf30 pf33 pf36 pf39 (a1) (a2) (a3) (fun p => a4 p) (fun p => a5 p) rc hrc k4 hk hF
  · refine ok_ite (fun q42 => ?_) (fun q42 => ?_)
    · have pf43 : (101 : Int32) ≤ (118 : Int32) ∧ (118 : Int32) ≤ (122 : Int32) := by
        exact ⟨by grind, by grind⟩
      exact ok_some ⟨hM8, pf43⟩
    · have pf44 : (0 : Int32) ≤ v26 ∧ v26 ≤ (65535 : Int32) := by
        have c45 : (0 : Int32) ≤ (M8.1 26 0 38) ∧ (M8.1 26 0 38) ≤ (12 : Int32) := hM8.at1 26 0 38
        have c46 : (0 : Int32) ≤ (M8.1 34 0 (p1).toNatClampNeg) ∧ (M8.1 34 0 (p1).toNatClampNeg) ≤ (4 : Int32) := hM8.at1 34 0 ((p1).toNatClampNeg)
        exact ⟨by grind, by grind⟩
      have pf47 : (0 : Int32) ≤ v27 ∧ v27 ≤ (1 : Int32) := by
        have c48 : (0 : Int32) ≤ (M8.1 26 0 38) ∧ (M8.1 26 0 38) ≤ (12 : Int32) := hM8.at1 26 0 38
        have c49 : (0 : Int32) ≤ (M8.1 34 0 (p1).toNatClampNeg) ∧ (M8.1 34 0 (p1).toNatClampNeg) ≤ (4 : Int32) := hM8.at1 34 0 ((p1).toNatClampNeg)
        exact ⟨by grind, by grind⟩
      have pf50 : (0 : Int32) ≤ p0 ∧ p0 ≤ (40 : Int32) := by
        exact ⟨by grind, by grind⟩
      have pf51 : (0 : Int32) ≤ v6 ∧ v6 ≤ (23 : Int32) := by
        exact ⟨by grind, by grind⟩
      have pf52 : (0 : Int32) ≤ v7 ∧ v7 ≤ (4 : Int32) := by
        have c53 : (0 : Int32) ≤ (M8.1 34 0 (p1).toNatClampNeg) ∧ (M8.1 34 0 (p1).toNatClampNeg) ≤ (4 : Int32) := hM8.at1 34 0 ((p1).toNatClampNeg)
        have c54 : (0 : Int32) ≤ (M8.1 26 0 38) ∧ (M8.1 26 0 38) ≤ (12 : Int32) := hM8.at1 26 0 38
        exact ⟨by grind, by grind⟩
      have pf55 : (0 : Int32) ≤ p1 ∧ p1 ≤ (39 : Int32) := by
        have c56 : (0 : Int32) ≤ (M8.1 34 0 (p1).toNatClampNeg) ∧ (M8.1 34 0 (p1).toNatClampNeg) ≤ (4 : Int32) := hM8.at1 34 0 ((p1).toNatClampNeg)
        have c57 : (0 : Int32) ≤ (M8.1 26 0 38) ∧ (M8.1 26 0 38) ≤ (12 : Int32) := hM8.at1 26 0 38
        exact ⟨by grind, by grind⟩
      have pf58 : isL v26 := by
        have c59 : (0 : Int32) ≤ (M8.1 26 0 38) ∧ (M8.1 26 0 38) ≤ (12 : Int32) := hM8.at1 26 0 38
        have c60 : (0 : Int32) ≤ (M8.1 34 0 (p1).toNatClampNeg) ∧ (M8.1 34 0 (p1).toNatClampNeg) ≤ (4 : Int32) := hM8.at1 34 0 ((p1).toNatClampNeg)
        grind [isL]
      have pf61 : (v27 = 0 ∧ ¬ v26 = 110 ∧ ¬ v26 = 105 ∧ ¬ v26 = 100) ∨ (v27 = 1 ∧ (v26 = 110 ∨ v26 = 105 ∨ v26 = 100)) := by
        have c62 : (0 : Int32) ≤ (M8.1 26 0 38) ∧ (M8.1 26 0 38) ≤ (12 : Int32) := hM8.at1 26 0 38
        have c63 : (0 : Int32) ≤ (M8.1 34 0 (p1).toNatClampNeg) ∧ (M8.1 34 0 (p1).toNatClampNeg) ≤ (4 : Int32) := hM8.at1 34 0 ((p1).toNatClampNeg)
        grind [isL]
      have pf64 : v7 ≤ (M8.1 34 0 (p1).toNatClampNeg) := by
        have c65 : (0 : Int32) ≤ (M8.1 34 0 (p1).toNatClampNeg) ∧ (M8.1 34 0 (p1).toNatClampNeg) ≤ (4 : Int32) := hM8.at1 34 0 ((p1).toNatClampNeg)
        have c66 : (0 : Int32) ≤ (M8.1 26 0 38) ∧ (M8.1 26 0 38) ≤ (12 : Int32) := hM8.at1 26 0 38
        grind [isL]
      have pf67 : (M8.1 26 0 40) < (300 : Int32) := by
        have c68 : (0 : Int32) ≤ (M8.1 26 0 40) ∧ (M8.1 26 0 40) ≤ (300 : Int32) := hM8.at1 26 0 40
        grind [isL]
      have pf69 : (v26 = 43 ∨ v26 = 45 ∨ v26 = 42 ∨ v26 = 37 ∨ v26 = 115) → (2 : Int32) ≤ (M8.1 26 0 38) := by
        have c70 : (0 : Int32) ≤ (M8.1 26 0 38) ∧ (M8.1 26 0 38) ≤ (12 : Int32) := hM8.at1 26 0 38
        have c71 : (0 : Int32) ≤ (M8.1 34 0 (p1).toNatClampNeg) ∧ (M8.1 34 0 (p1).toNatClampNeg) ≤ (4 : Int32) := hM8.at1 34 0 ((p1).toNatClampNeg)
        grind [isL]
      have pf72 : ¬ v26 = 110 → ¬ v26 = 105 → (1 : Int32) ≤ (M8.1 26 0 38) := by
        have c73 : (0 : Int32) ≤ (M8.1 26 0 38) ∧ (M8.1 26 0 38) ≤ (12 : Int32) := hM8.at1 26 0 38
        have c74 : (0 : Int32) ≤ (M8.1 34 0 (p1).toNatClampNeg) ∧ (M8.1 34 0 (p1).toNatClampNeg) ≤ (4 : Int32) := hM8.at1 34 0 ((p1).toNatClampNeg)
        grind [isL]
      have pf75 : v26 = 105 → v7 < (M8.1 34 0 (p1).toNatClampNeg) := by
        have c76 : (0 : Int32) ≤ (M8.1 34 0 (p1).toNatClampNeg) ∧ (M8.1 34 0 (p1).toNatClampNeg) ≤ (4 : Int32) := hM8.at1 34 0 ((p1).toNatClampNeg)
        have c77 : (0 : Int32) ≤ (M8.1 26 0 38) ∧ (M8.1 26 0 38) ≤ (12 : Int32) := hM8.at1 26 0 38
        grind [isL]
      have pf78 : v26 = 37 → ¬ (M8.1 53 0 (((M8.1 26 0 38) - (1 : Int32))).toNatClampNeg) = 0 := by
        have c79 : (0 : Int32) ≤ (M8.1 26 0 38) ∧ (M8.1 26 0 38) ≤ (12 : Int32) := hM8.at1 26 0 38
        have c80 : (0 : Int32) ≤ (M8.1 34 0 (p1).toNatClampNeg) ∧ (M8.1 34 0 (p1).toNatClampNeg) ≤ (4 : Int32) := hM8.at1 34 0 ((p1).toNatClampNeg)
        grind [isL]
      have pf81 : v27 = 1 → (M8.1 26 0 38) < (12 : Int32) := by
        have c82 : (0 : Int32) ≤ (M8.1 26 0 38) ∧ (M8.1 26 0 38) ≤ (12 : Int32) := hM8.at1 26 0 38
        have c83 : (0 : Int32) ≤ (M8.1 34 0 (p1).toNatClampNeg) ∧ (M8.1 34 0 (p1).toNatClampNeg) ≤ (4 : Int32) := hM8.at1 34 0 ((p1).toNatClampNeg)
        grind [isL]
      exact s_X7_runs_J162 v26 pf44 M8 hM8 v27 pf47 p0 pf50 v6 pf51 v7 pf52 p1 pf55 pf58 pf61 pf64 pf67 pf69 pf72 pf75 pf78 pf81 (a1) (a2) (a3) (fun p => a4 p) (fun p => a5 p) rc hrc k4 hk hF
theorem s_X7_runs_J121 {A : Nat → Nat → Nat → Prop} {B : SS} (v26 : Int32) (iv26 : (0 : Int32) ≤ v26 ∧ v26 ≤ (65535 : Int32)) (M8 : SS) (hM8 : IV A B M8) (v27 : Int32) (iv27 : (0 : Int32) ≤ v27 ∧ v27 ≤ (1 : Int32)) (p0 : Int32) (ip0 : (0 : Int32) ≤ p0 ∧ p0 ≤ (40 : Int32)) (v6 : Int32) (iv6 : (0 : Int32) ≤ v6 ∧ v6 ≤ (23 : Int32)) (v7 : Int32) (iv7 : (0 : Int32) ≤ v7 ∧ v7 ≤ (4 : Int32)) (p1 : Int32) (ip1 : (0 : Int32) ≤ p1 ∧ p1 ≤ (39 : Int32)) (x0 : isL v26) (x1 : (v27 = 0 ∧ ¬ v26 = 110 ∧ ¬ v26 = 105 ∧ ¬ v26 = 100) ∨ (v27 = 1 ∧ (v26 = 110 ∨ v26 = 105 ∨ v26 = 100))) (x2 : v7 ≤ (M8.1 34 0 (p1).toNatClampNeg)) (x3 : (M8.1 26 0 40) < (300 : Int32)) (x4 : (v26 = 43 ∨ v26 = 45 ∨ v26 = 42 ∨ v26 = 37 ∨ v26 = 115) → (2 : Int32) ≤ (M8.1 26 0 38)) (x5 : ¬ v26 = 110 → ¬ v26 = 105 → (1 : Int32) ≤ (M8.1 26 0 38)) (x6 : v26 = 105 → v7 < (M8.1 34 0 (p1).toNatClampNeg)) (a1 : A 26 0 38) (a2 : A 26 0 39) (a3 : A 26 0 40) (a4 : ∀ p, A 53 0 p) (a5 : ∀ p, A 54 0 p) {n : Nat} (rc : Int32 → Int32 → SS → (SS → Option (SS × Int32)) → Option (SS × Int32)) (hrc : ∀ (v6 : Int32) (v7 : Int32) (M8 : SS) (k4 : (SS → Option (SS × Int32))), (FU ((M8.1 26 0 40)) 300 n) → ((0 : Int32) ≤ v6 ∧ v6 ≤ (24 : Int32)) → ((0 : Int32) ≤ v7 ∧ v7 ≤ (4 : Int32)) → (IV A B M8) → (v7 ≤ (M8.1 34 0 (p1).toNatClampNeg)) → (∀ (k_0 : SS), (IV A B k_0) → ok (k4 k_0) (fun r => IV A B r.1 ∧ (101 : Int32) ≤ r.2 ∧ r.2 ≤ (122 : Int32))) → ok (rc v6 v7 M8 k4) (fun r => IV A B r.1 ∧ (101 : Int32) ≤ r.2 ∧ r.2 ≤ (122 : Int32))) (k4 : SS → Option (SS × Int32)) (hk : ∀ (k_0 : SS), (IV A B k_0) → ok (k4 k_0) (fun r => IV A B r.1 ∧ (101 : Int32) ≤ r.2 ∧ r.2 ≤ (122 : Int32))) (hF : FU ((M8.1 26 0 40)) 300 (n + 1)) : ok (f_X7_runs_J121 rc k4 v26 M8 v27 p0 v6 v7 p1) (fun r => IV A B r.1 ∧ (101 : Int32) ≤ r.2 ∧ r.2 ≤ (122 : Int32)) := by
  unfold f_X7_runs_J121
  refine ok_ite (fun q1 => ?_) (fun q1 => ?_)
  · refine ok_gd ?_ (fun g2 => ?_)
    · have c3 : (0 : Int32) ≤ (M8.1 26 0 38) ∧ (M8.1 26 0 38) ≤ (12 : Int32) := hM8.at1 26 0 38
      have c4 : (0 : Int32) ≤ (M8.1 34 0 (p1).toNatClampNeg) ∧ (M8.1 34 0 (p1).toNatClampNeg) ≤ (4 : Int32) := hM8.at1 34 0 ((p1).toNatClampNeg)
      exact vp_of (by decide) (by grind) (show ((M8.1 26 0 38) - (1 : Int32)) < (12 : Int32) by grind)
    have g2 := vp_to (by decide) g2
    have g2 : (0 : Int32) ≤ ((M8.1 26 0 38) - (1 : Int32)) ∧ ((M8.1 26 0 38) - (1 : Int32)) < (12 : Int32) := g2
    refine ok_ite (fun q5 => ?_) (fun q5 => ?_)
    · have pf6 : (101 : Int32) ≤ (122 : Int32) ∧ (122 : Int32) ≤ (122 : Int32) := by
        exact ⟨by grind, by grind⟩
      exact ok_some ⟨hM8, pf6⟩
    · have pf7 : (0 : Int32) ≤ v27 ∧ v27 ≤ (1 : Int32) := by
        have c8 : (0 : Int32) ≤ (M8.1 26 0 38) ∧ (M8.1 26 0 38) ≤ (12 : Int32) := hM8.at1 26 0 38
        have c9 : (0 : Int32) ≤ (M8.1 34 0 (p1).toNatClampNeg) ∧ (M8.1 34 0 (p1).toNatClampNeg) ≤ (4 : Int32) := hM8.at1 34 0 ((p1).toNatClampNeg)
        exact ⟨by grind, by grind⟩
      have pf10 : (0 : Int32) ≤ v26 ∧ v26 ≤ (65535 : Int32) := by
        have c11 : (0 : Int32) ≤ (M8.1 26 0 38) ∧ (M8.1 26 0 38) ≤ (12 : Int32) := hM8.at1 26 0 38
        have c12 : (0 : Int32) ≤ (M8.1 34 0 (p1).toNatClampNeg) ∧ (M8.1 34 0 (p1).toNatClampNeg) ≤ (4 : Int32) := hM8.at1 34 0 ((p1).toNatClampNeg)
        exact ⟨by grind, by grind⟩
      have pf13 : (0 : Int32) ≤ p0 ∧ p0 ≤ (40 : Int32) := by
        exact ⟨by grind, by grind⟩
      have pf14 : (0 : Int32) ≤ v6 ∧ v6 ≤ (23 : Int32) := by
        exact ⟨by grind, by grind⟩
      have pf15 : (0 : Int32) ≤ v7 ∧ v7 ≤ (4 : Int32) := by
        have c16 : (0 : Int32) ≤ (M8.1 34 0 (p1).toNatClampNeg) ∧ (M8.1 34 0 (p1).toNatClampNeg) ≤ (4 : Int32) := hM8.at1 34 0 ((p1).toNatClampNeg)
        have c17 : (0 : Int32) ≤ (M8.1 26 0 38) ∧ (M8.1 26 0 38) ≤ (12 : Int32) := hM8.at1 26 0 38
        exact ⟨by grind, by grind⟩
      have pf18 : (0 : Int32) ≤ p1 ∧ p1 ≤ (39 : Int32) := by
        have c19 : (0 : Int32) ≤ (M8.1 34 0 (p1).toNatClampNeg) ∧ (M8.1 34 0 (p1).toNatClampNeg) ≤ (4 : Int32) := hM8.at1 34 0 ((p1).toNatClampNeg)
        have c20 : (0 : Int32) ≤ (M8.1 26 0 38) ∧ (M8.1 26 0 38) ≤ (12 : Int32) := hM8.at1 26 0 38
        exact ⟨by grind, by grind⟩
      have pf21 : isL v26 := by
        have c22 : (0 : Int32) ≤ (M8.1 26 0 38) ∧ (M8.1 26 0 38) ≤ (12 : Int32) := hM8.at1 26 0 38
        have c23 : (0 : Int32) ≤ (M8.1 34 0 (p1).toNatClampNeg) ∧ (M8.1 34 0 (p1).toNatClampNeg) ≤ (4 : Int32) := hM8.at1 34 0 ((p1).toNatClampNeg)
        grind [isL]
      have pf24 : (v27 = 0 ∧ ¬ v26 = 110 ∧ ¬ v26 = 105 ∧ ¬ v26 = 100) ∨ (v27 = 1 ∧ (v26 = 110 ∨ v26 = 105 ∨ v26 = 100)) := by
        have c25 : (0 : Int32) ≤ (M8.1 26 0 38) ∧ (M8.1 26 0 38) ≤ (12 : Int32) := hM8.at1 26 0 38
        have c26 : (0 : Int32) ≤ (M8.1 34 0 (p1).toNatClampNeg) ∧ (M8.1 34 0 (p1).toNatClampNeg) ≤ (4 : Int32) := hM8.at1 34 0 ((p1).toNatClampNeg)
        grind [isL]
      have pf27 : v7 ≤ (M8.1 34 0 (p1).toNatClampNeg) := by
        have c28 : (0 : Int32) ≤ (M8.1 34 0 (p1).toNatClampNeg) ∧ (M8.1 34 0 (p1).toNatClampNeg) ≤ (4 : Int32) := hM8.at1 34 0 ((p1).toNatClampNeg)
        have c29 : (0 : Int32) ≤ (M8.1 26 0 38) ∧ (M8.1 26 0 38) ≤ (12 : Int32) := hM8.at1 26 0 38
        grind [isL]
      have pf30 : (M8.1 26 0 40) < (300 : Int32) := by
        have c31 : (0 : Int32) ≤ (M8.1 26 0 40) ∧ (M8.1 26 0 40) ≤ (300 : Int32) := hM8.at1 26 0 40
        grind [isL]
      have pf32 : (v26 = 43 ∨ v26 = 45 ∨ v26 = 42 ∨ v26 = 37 ∨ v26 = 115) → (2 : Int32) ≤ (M8.1 26 0 38) := by
        have c33 : (0 : Int32) ≤ (M8.1 26 0 38) ∧ (M8.1 26 0 38) ≤ (12 : Int32) := hM8.at1 26 0 38
        have c34 : (0 : Int32) ≤ (M8.1 34 0 (p1).toNatClampNeg) ∧ (M8.1 34 0 (p1).toNatClampNeg) ≤ (4 : Int32) := hM8.at1 34 0 ((p1).toNatClampNeg)
        grind [isL]
      have pf35 : ¬ v26 = 110 → ¬ v26 = 105 → (1 : Int32) ≤ (M8.1 26 0 38) := by
        have c36 : (0 : Int32) ≤ (M8.1 26 0 38) ∧ (M8.1 26 0 38) ≤ (12 : Int32) := hM8.at1 26 0 38
        have c37 : (0 : Int32) ≤ (M8.1 34 0 (p1).toNatClampNeg) ∧ (M8.1 34 0 (p1).toNatClampNeg) ≤ (4 : Int32) := hM8.at1 34 0 ((p1).toNatClampNeg)
        grind [isL]
      have pf38 : v26 = 105 → v7 < (M8.1 34 0 (p1).toNatClampNeg) := by
        have c39 : (0 : Int32) ≤ (M8.1 34 0 (p1).toNatClampNeg) ∧ (M8.1 34 0 (p1).toNatClampNeg) ≤ (4 : Int32) := hM8.at1 34 0 ((p1).toNatClampNeg)
        have c40 : (0 : Int32) ≤ (M8.1 26 0 38) ∧ (M8.1 26 0 38) ≤ (12 : Int32) := hM8.at1 26 0 38
        grind [isL]
      have pf41 : v26 = 37 → ¬ (M8.1 53 0 (((M8.1 26 0 38) - (1 : Int32))).toNatClampNeg) = 0 := by
        have c42 : (0 : Int32) ≤ (M8.1 26 0 38) ∧ (M8.1 26 0 38) ≤ (12 : Int32) := hM8.at1 26 0 38
        have c43 : (0 : Int32) ≤ (M8.1 34 0 (p1).toNatClampNeg) ∧ (M8.1 34 0 (p1).toNatClampNeg) ≤ (4 : Int32) := hM8.at1 34 0 ((p1).toNatClampNeg)
        grind [isL]
      exact s_X7_runs_J145 v27 pf7 v26 pf10 M8 hM8 p0 pf13 v6 pf14 v7 pf15 p1 pf18 pf21 pf24 pf27 pf30 pf32 pf35 pf38 pf41 (a1) (a2) (a3) (fun p => a4 p) (fun p => a5 p) rc hrc k4 hk hF
  · have pf44 : (0 : Int32) ≤ v27 ∧ v27 ≤ (1 : Int32) := by
      have c45 : (0 : Int32) ≤ (M8.1 26 0 38) ∧ (M8.1 26 0 38) ≤ (12 : Int32) := hM8.at1 26 0 38
      have c46 : (0 : Int32) ≤ (M8.1 34 0 (p1).toNatClampNeg) ∧ (M8.1 34 0 (p1).toNatClampNeg) ≤ (4 : Int32) := hM8.at1 34 0 ((p1).toNatClampNeg)
      exact ⟨by grind, by grind⟩
    have pf47 : (0 : Int32) ≤ v26 ∧ v26 ≤ (65535 : Int32) := by
      have c48 : (0 : Int32) ≤ (M8.1 26 0 38) ∧ (M8.1 26 0 38) ≤ (12 : Int32) := hM8.at1 26 0 38
      have c49 : (0 : Int32) ≤ (M8.1 34 0 (p1).toNatClampNeg) ∧ (M8.1 34 0 (p1).toNatClampNeg) ≤ (4 : Int32) := hM8.at1 34 0 ((p1).toNatClampNeg)
      exact ⟨by grind, by grind⟩
    have pf50 : (0 : Int32) ≤ p0 ∧ p0 ≤ (40 : Int32) := by
      exact ⟨by grind, by grind⟩
    have pf51 : (0 : Int32) ≤ v6 ∧ v6 ≤ (23 : Int32) := by
      exact ⟨by grind, by grind⟩
    have pf52 : (0 : Int32) ≤ v7 ∧ v7 ≤ (4 : Int32) := by
      have c53 : (0 : Int32) ≤ (M8.1 34 0 (p1).toNatClampNeg) ∧ (M8.1 34 0 (p1).toNatClampNeg) ≤ (4 : Int32) := hM8.at1 34 0 ((p1).toNatClampNeg)
      have c54 : (0 : Int32) ≤ (M8.1 26 0 38) ∧ (M8.1 26 0 38) ≤ (12 : Int32) := hM8.at1 26 0 38
      exact ⟨by grind, by grind⟩
    have pf55 : (0 : Int32) ≤ p1 ∧ p1 ≤ (39 : Int32) := by
      have c56 : (0 : Int32) ≤ (M8.1 34 0 (p1).toNatClampNeg) ∧ (M8.1 34 0 (p1).toNatClampNeg) ≤ (4 : Int32) := hM8.at1 34 0 ((p1).toNatClampNeg)
      have c57 : (0 : Int32) ≤ (M8.1 26 0 38) ∧ (M8.1 26 0 38) ≤ (12 : Int32) := hM8.at1 26 0 38
      exact ⟨by grind, by grind⟩
    have pf58 : isL v26 := by
      have c59 : (0 : Int32) ≤ (M8.1 26 0 38) ∧ (M8.1 26 0 38) ≤ (12 : Int32) := hM8.at1 26 0 38
      have c60 : (0 : Int32) ≤ (M8.1 34 0 (p1).toNatClampNeg) ∧ (M8.1 34 0 (p1).toNatClampNeg) ≤ (4 : Int32) := hM8.at1 34 0 ((p1).toNatClampNeg)
      grind [isL]
    have pf61 : (v27 = 0 ∧ ¬ v26 = 110 ∧ ¬ v26 = 105 ∧ ¬ v26 = 100) ∨ (v27 = 1 ∧ (v26 = 110 ∨ v26 = 105 ∨ v26 = 100)) := by
      have c62 : (0 : Int32) ≤ (M8.1 26 0 38) ∧ (M8.1 26 0 38) ≤ (12 : Int32) := hM8.at1 26 0 38
      have c63 : (0 : Int32) ≤ (M8.1 34 0 (p1).toNatClampNeg) ∧ (M8.1 34 0 (p1).toNatClampNeg) ≤ (4 : Int32) := hM8.at1 34 0 ((p1).toNatClampNeg)
      grind [isL]
    have pf64 : v7 ≤ (M8.1 34 0 (p1).toNatClampNeg) := by
      have c65 : (0 : Int32) ≤ (M8.1 34 0 (p1).toNatClampNeg) ∧ (M8.1 34 0 (p1).toNatClampNeg) ≤ (4 : Int32) := hM8.at1 34 0 ((p1).toNatClampNeg)
      have c66 : (0 : Int32) ≤ (M8.1 26 0 38) ∧ (M8.1 26 0 38) ≤ (12 : Int32) := hM8.at1 26 0 38
      grind [isL]
    have pf67 : (M8.1 26 0 40) < (300 : Int32) := by
      have c68 : (0 : Int32) ≤ (M8.1 26 0 40) ∧ (M8.1 26 0 40) ≤ (300 : Int32) := hM8.at1 26 0 40
      grind [isL]
    have pf69 : (v26 = 43 ∨ v26 = 45 ∨ v26 = 42 ∨ v26 = 37 ∨ v26 = 115) → (2 : Int32) ≤ (M8.1 26 0 38) := by
      have c70 : (0 : Int32) ≤ (M8.1 26 0 38) ∧ (M8.1 26 0 38) ≤ (12 : Int32) := hM8.at1 26 0 38
      have c71 : (0 : Int32) ≤ (M8.1 34 0 (p1).toNatClampNeg) ∧ (M8.1 34 0 (p1).toNatClampNeg) ≤ (4 : Int32) := hM8.at1 34 0 ((p1).toNatClampNeg)
      grind [isL]
    have pf72 : ¬ v26 = 110 → ¬ v26 = 105 → (1 : Int32) ≤ (M8.1 26 0 38) := by
      have c73 : (0 : Int32) ≤ (M8.1 26 0 38) ∧ (M8.1 26 0 38) ≤ (12 : Int32) := hM8.at1 26 0 38
      have c74 : (0 : Int32) ≤ (M8.1 34 0 (p1).toNatClampNeg) ∧ (M8.1 34 0 (p1).toNatClampNeg) ≤ (4 : Int32) := hM8.at1 34 0 ((p1).toNatClampNeg)
      grind [isL]
    have pf75 : v26 = 105 → v7 < (M8.1 34 0 (p1).toNatClampNeg) := by
      have c76 : (0 : Int32) ≤ (M8.1 34 0 (p1).toNatClampNeg) ∧ (M8.1 34 0 (p1).toNatClampNeg) ≤ (4 : Int32) := hM8.at1 34 0 ((p1).toNatClampNeg)
      have c77 : (0 : Int32) ≤ (M8.1 26 0 38) ∧ (M8.1 26 0 38) ≤ (12 : Int32) := hM8.at1 26 0 38
      grind [isL]
    have pf78 : v26 = 37 → ¬ (M8.1 53 0 (((M8.1 26 0 38) - (1 : Int32))).toNatClampNeg) = 0 := by
      have c79 : (0 : Int32) ≤ (M8.1 26 0 38) ∧ (M8.1 26 0 38) ≤ (12 : Int32) := hM8.at1 26 0 38
      have c80 : (0 : Int32) ≤ (M8.1 34 0 (p1).toNatClampNeg) ∧ (M8.1 34 0 (p1).toNatClampNeg) ≤ (4 : Int32) := hM8.at1 34 0 ((p1).toNatClampNeg)
      grind [isL]
    exact s_X7_runs_J145 v27 pf44 v26 pf47 M8 hM8 p0 pf50 v6 pf51 v7 pf52 p1 pf55 pf58 pf61 pf64 pf67 pf69 pf72 pf75 pf78 (a1) (a2) (a3) (fun p => a4 p) (fun p => a5 p) rc hrc k4 hk hF
theorem s_X7_runs_J71 {A : Nat → Nat → Nat → Prop} {B : SS} (M8 : SS) (hM8 : IV A B M8) (v26 : Int32) (iv26 : (0 : Int32) ≤ v26 ∧ v26 ≤ (65535 : Int32)) (p1 : Int32) (ip1 : (0 : Int32) ≤ p1 ∧ p1 ≤ (39 : Int32)) (v7 : Int32) (iv7 : (0 : Int32) ≤ v7 ∧ v7 ≤ (4 : Int32)) (p0 : Int32) (ip0 : (0 : Int32) ≤ p0 ∧ p0 ≤ (40 : Int32)) (v6 : Int32) (iv6 : (0 : Int32) ≤ v6 ∧ v6 ≤ (23 : Int32)) (v27 : Int32) (iv27 : (0 : Int32) ≤ v27 ∧ v27 ≤ (1 : Int32)) (x0 : isL v26) (x1 : (v27 = 0 ∧ ¬ v26 = 110 ∧ ¬ v26 = 105 ∧ ¬ v26 = 100) ∨ (v27 = 1 ∧ (v26 = 110 ∨ v26 = 105 ∨ v26 = 100))) (x2 : v7 ≤ (M8.1 34 0 (p1).toNatClampNeg)) (a1 : A 26 0 38) (a2 : A 26 0 39) (a3 : A 26 0 40) (a4 : ∀ p, A 53 0 p) (a5 : ∀ p, A 54 0 p) {n : Nat} (rc : Int32 → Int32 → SS → (SS → Option (SS × Int32)) → Option (SS × Int32)) (hrc : ∀ (v6 : Int32) (v7 : Int32) (M8 : SS) (k4 : (SS → Option (SS × Int32))), (FU ((M8.1 26 0 40)) 300 n) → ((0 : Int32) ≤ v6 ∧ v6 ≤ (24 : Int32)) → ((0 : Int32) ≤ v7 ∧ v7 ≤ (4 : Int32)) → (IV A B M8) → (v7 ≤ (M8.1 34 0 (p1).toNatClampNeg)) → (∀ (k_0 : SS), (IV A B k_0) → ok (k4 k_0) (fun r => IV A B r.1 ∧ (101 : Int32) ≤ r.2 ∧ r.2 ≤ (122 : Int32))) → ok (rc v6 v7 M8 k4) (fun r => IV A B r.1 ∧ (101 : Int32) ≤ r.2 ∧ r.2 ≤ (122 : Int32))) (k4 : SS → Option (SS × Int32)) (hk : ∀ (k_0 : SS), (IV A B k_0) → ok (k4 k_0) (fun r => IV A B r.1 ∧ (101 : Int32) ≤ r.2 ∧ r.2 ≤ (122 : Int32))) (hF : FU ((M8.1 26 0 40)) 300 (n + 1)) : ok (f_X7_runs_J71 rc k4 M8 v26 p1 v7 p0 v6 v27) (fun r => IV A B r.1 ∧ (101 : Int32) ≤ r.2 ∧ r.2 ≤ (122 : Int32)) := by
  unfold f_X7_runs_J71
  refine ok_ite (fun q1 => ?_) (fun q1 => ?_)
  · have pf2 : (101 : Int32) ≤ (116 : Int32) ∧ (116 : Int32) ≤ (122 : Int32) := by
      exact ⟨by grind, by grind⟩
    exact ok_some ⟨hM8, pf2⟩
  · have pf3 : (0 : Int32) ≤ v26 ∧ v26 ≤ (65535 : Int32) := by
      exact ⟨by grind, by grind⟩
    refine ok_b0 (s_X7_needs v26 pf3) (fun v30 w4 => ?_)
    have w5 : (0 : Int32) ≤ v30 ∧ v30 ≤ (2 : Int32) ∧ (((v26 = 43 ∨ v26 = 45 ∨ v26 = 42 ∨ v26 = 37 ∨ v26 = 115) → v30 = 2) ∧ (¬ v26 = 110 → ¬ v26 = 105 → (1 : Int32) ≤ v30)) := w4
    refine ok_ite (fun q6 => ?_) (fun q6 => ?_)
    · refine ok_ite (fun q7 => ?_) (fun q7 => ?_)
      · refine ok_gd ?_ (fun g8 => ?_)
        · have c9 : (0 : Int32) ≤ (M8.1 34 0 (p1).toNatClampNeg) ∧ (M8.1 34 0 (p1).toNatClampNeg) ≤ (4 : Int32) := hM8.at1 34 0 ((p1).toNatClampNeg)
          exact vp_of (by decide) (by grind) (show p1 < (40 : Int32) by grind)
        have g8 := vp_to (by decide) g8
        have g8 : (0 : Int32) ≤ p1 ∧ p1 < (40 : Int32) := g8
        refine ok_ite (fun q10 => ?_) (fun q10 => ?_)
        · have pf11 : (101 : Int32) ≤ (101 : Int32) ∧ (101 : Int32) ≤ (122 : Int32) := by
            exact ⟨by grind, by grind⟩
          exact ok_some ⟨hM8, pf11⟩
        · have pf12 : (0 : Int32) ≤ v26 ∧ v26 ≤ (65535 : Int32) := by
            have c13 : (0 : Int32) ≤ (M8.1 26 0 38) ∧ (M8.1 26 0 38) ≤ (12 : Int32) := hM8.at1 26 0 38
            exact ⟨by grind, by grind⟩
          have pf14 : (0 : Int32) ≤ v27 ∧ v27 ≤ (1 : Int32) := by
            have c15 : (0 : Int32) ≤ (M8.1 26 0 38) ∧ (M8.1 26 0 38) ≤ (12 : Int32) := hM8.at1 26 0 38
            exact ⟨by grind, by grind⟩
          have pf16 : (0 : Int32) ≤ p0 ∧ p0 ≤ (40 : Int32) := by
            exact ⟨by grind, by grind⟩
          have pf17 : (0 : Int32) ≤ v6 ∧ v6 ≤ (23 : Int32) := by
            exact ⟨by grind, by grind⟩
          have pf18 : (0 : Int32) ≤ v7 ∧ v7 ≤ (4 : Int32) := by
            have c19 : (0 : Int32) ≤ (M8.1 34 0 (p1).toNatClampNeg) ∧ (M8.1 34 0 (p1).toNatClampNeg) ≤ (4 : Int32) := hM8.at1 34 0 ((p1).toNatClampNeg)
            exact ⟨by grind, by grind⟩
          have pf20 : (0 : Int32) ≤ p1 ∧ p1 ≤ (39 : Int32) := by
            have c21 : (0 : Int32) ≤ (M8.1 34 0 (p1).toNatClampNeg) ∧ (M8.1 34 0 (p1).toNatClampNeg) ≤ (4 : Int32) := hM8.at1 34 0 ((p1).toNatClampNeg)
            exact ⟨by grind, by grind⟩
          have pf22 : isL v26 := by
            have c23 : (0 : Int32) ≤ (M8.1 26 0 38) ∧ (M8.1 26 0 38) ≤ (12 : Int32) := hM8.at1 26 0 38
            grind [isL]
          have pf24 : (v27 = 0 ∧ ¬ v26 = 110 ∧ ¬ v26 = 105 ∧ ¬ v26 = 100) ∨ (v27 = 1 ∧ (v26 = 110 ∨ v26 = 105 ∨ v26 = 100)) := by
            have c25 : (0 : Int32) ≤ (M8.1 26 0 38) ∧ (M8.1 26 0 38) ≤ (12 : Int32) := hM8.at1 26 0 38
            grind [isL]
          have pf26 : v7 ≤ (M8.1 34 0 (p1).toNatClampNeg) := by
            have c27 : (0 : Int32) ≤ (M8.1 34 0 (p1).toNatClampNeg) ∧ (M8.1 34 0 (p1).toNatClampNeg) ≤ (4 : Int32) := hM8.at1 34 0 ((p1).toNatClampNeg)
            grind [isL]
          have pf28 : (M8.1 26 0 40) < (300 : Int32) := by
            have c29 : (0 : Int32) ≤ (M8.1 26 0 40) ∧ (M8.1 26 0 40) ≤ (300 : Int32) := hM8.at1 26 0 40
            grind [isL]
          have pf30 : (v26 = 43 ∨ v26 = 45 ∨ v26 = 42 ∨ v26 = 37 ∨ v26 = 115) → (2 : Int32) ≤ (M8.1 26 0 38) := by
            have c31 : (0 : Int32) ≤ (M8.1 26 0 38) ∧ (M8.1 26 0 38) ≤ (12 : Int32) := hM8.at1 26 0 38
            grind [isL]
          have pf32 : ¬ v26 = 110 → ¬ v26 = 105 → (1 : Int32) ≤ (M8.1 26 0 38) := by
            have c33 : (0 : Int32) ≤ (M8.1 26 0 38) ∧ (M8.1 26 0 38) ≤ (12 : Int32) := hM8.at1 26 0 38
            grind [isL]
          have pf34 : v26 = 105 → v7 < (M8.1 34 0 (p1).toNatClampNeg) := by
            have c35 : (0 : Int32) ≤ (M8.1 34 0 (p1).toNatClampNeg) ∧ (M8.1 34 0 (p1).toNatClampNeg) ≤ (4 : Int32) := hM8.at1 34 0 ((p1).toNatClampNeg)
            have c36 : (0 : Int32) ≤ (M8.1 26 0 38) ∧ (M8.1 26 0 38) ≤ (12 : Int32) := hM8.at1 26 0 38
            grind [isL]
          exact s_X7_runs_J121 v26 pf12 M8 hM8 v27 pf14 p0 pf16 v6 pf17 v7 pf18 p1 pf20 pf22 pf24 pf26 pf28 pf30 pf32 pf34 (a1) (a2) (a3) (fun p => a4 p) (fun p => a5 p) rc hrc k4 hk hF
      · have pf37 : (0 : Int32) ≤ v26 ∧ v26 ≤ (65535 : Int32) := by
          have c38 : (0 : Int32) ≤ (M8.1 26 0 38) ∧ (M8.1 26 0 38) ≤ (12 : Int32) := hM8.at1 26 0 38
          exact ⟨by grind, by grind⟩
        have pf39 : (0 : Int32) ≤ v27 ∧ v27 ≤ (1 : Int32) := by
          have c40 : (0 : Int32) ≤ (M8.1 26 0 38) ∧ (M8.1 26 0 38) ≤ (12 : Int32) := hM8.at1 26 0 38
          exact ⟨by grind, by grind⟩
        have pf41 : (0 : Int32) ≤ p0 ∧ p0 ≤ (40 : Int32) := by
          exact ⟨by grind, by grind⟩
        have pf42 : (0 : Int32) ≤ v6 ∧ v6 ≤ (23 : Int32) := by
          exact ⟨by grind, by grind⟩
        have pf43 : (0 : Int32) ≤ v7 ∧ v7 ≤ (4 : Int32) := by
          have c44 : (0 : Int32) ≤ (M8.1 34 0 (p1).toNatClampNeg) ∧ (M8.1 34 0 (p1).toNatClampNeg) ≤ (4 : Int32) := hM8.at1 34 0 ((p1).toNatClampNeg)
          exact ⟨by grind, by grind⟩
        have pf45 : (0 : Int32) ≤ p1 ∧ p1 ≤ (39 : Int32) := by
          have c46 : (0 : Int32) ≤ (M8.1 34 0 (p1).toNatClampNeg) ∧ (M8.1 34 0 (p1).toNatClampNeg) ≤ (4 : Int32) := hM8.at1 34 0 ((p1).toNatClampNeg)
          exact ⟨by grind, by grind⟩
        have pf47 : isL v26 := by
          have c48 : (0 : Int32) ≤ (M8.1 26 0 38) ∧ (M8.1 26 0 38) ≤ (12 : Int32) := hM8.at1 26 0 38
          grind [isL]
        have pf49 : (v27 = 0 ∧ ¬ v26 = 110 ∧ ¬ v26 = 105 ∧ ¬ v26 = 100) ∨ (v27 = 1 ∧ (v26 = 110 ∨ v26 = 105 ∨ v26 = 100)) := by
          have c50 : (0 : Int32) ≤ (M8.1 26 0 38) ∧ (M8.1 26 0 38) ≤ (12 : Int32) := hM8.at1 26 0 38
          grind [isL]
        have pf51 : v7 ≤ (M8.1 34 0 (p1).toNatClampNeg) := by
          have c52 : (0 : Int32) ≤ (M8.1 34 0 (p1).toNatClampNeg) ∧ (M8.1 34 0 (p1).toNatClampNeg) ≤ (4 : Int32) := hM8.at1 34 0 ((p1).toNatClampNeg)
          grind [isL]
        have pf53 : (M8.1 26 0 40) < (300 : Int32) := by
          have c54 : (0 : Int32) ≤ (M8.1 26 0 40) ∧ (M8.1 26 0 40) ≤ (300 : Int32) := hM8.at1 26 0 40
          grind [isL]
        have pf55 : (v26 = 43 ∨ v26 = 45 ∨ v26 = 42 ∨ v26 = 37 ∨ v26 = 115) → (2 : Int32) ≤ (M8.1 26 0 38) := by
          have c56 : (0 : Int32) ≤ (M8.1 26 0 38) ∧ (M8.1 26 0 38) ≤ (12 : Int32) := hM8.at1 26 0 38
          grind [isL]
        have pf57 : ¬ v26 = 110 → ¬ v26 = 105 → (1 : Int32) ≤ (M8.1 26 0 38) := by
          have c58 : (0 : Int32) ≤ (M8.1 26 0 38) ∧ (M8.1 26 0 38) ≤ (12 : Int32) := hM8.at1 26 0 38
          grind [isL]
        have pf59 : v26 = 105 → v7 < (M8.1 34 0 (p1).toNatClampNeg) := by
          have c60 : (0 : Int32) ≤ (M8.1 34 0 (p1).toNatClampNeg) ∧ (M8.1 34 0 (p1).toNatClampNeg) ≤ (4 : Int32) := hM8.at1 34 0 ((p1).toNatClampNeg)
          have c61 : (0 : Int32) ≤ (M8.1 26 0 38) ∧ (M8.1 26 0 38) ≤ (12 : Int32) := hM8.at1 26 0 38
          grind [isL]
        exact s_X7_runs_J121 v26 pf37 M8 hM8 v27 pf39 p0 pf41 v6 pf42 v7 pf43 p1 pf45 pf47 pf49 pf51 pf53 pf55 pf57 pf59 (a1) (a2) (a3) (fun p => a4 p) (fun p => a5 p) rc hrc k4 hk hF
    · have pf62 : (101 : Int32) ≤ (117 : Int32) ∧ (117 : Int32) ≤ (122 : Int32) := by
        exact ⟨by grind, by grind⟩
      exact ok_some ⟨hM8, pf62⟩
theorem s_X7_runs_L20 {A : Nat → Nat → Nat → Prop} {B : SS} (p0 : Int32) (ip0 : (0 : Int32) ≤ p0 ∧ p0 ≤ (40 : Int32)) (p1 : Int32) (ip1 : (0 : Int32) ≤ p1 ∧ p1 ≤ (39 : Int32)) (a1 : A 26 0 38) (a2 : A 26 0 39) (a3 : A 26 0 40) (a4 : ∀ p, A 53 0 p) (a5 : ∀ p, A 54 0 p) : ∀ (n : Nat), ∀ (v6 : Int32) (v7 : Int32) (M8 : SS) (k4 : (SS → Option (SS × Int32))), (FU ((M8.1 26 0 40)) 300 n) → ((0 : Int32) ≤ v6 ∧ v6 ≤ (24 : Int32)) → ((0 : Int32) ≤ v7 ∧ v7 ≤ (4 : Int32)) → (IV A B M8) → (v7 ≤ (M8.1 34 0 (p1).toNatClampNeg)) → (∀ (k_0 : SS), (IV A B k_0) → ok (k4 k_0) (fun r => IV A B r.1 ∧ (101 : Int32) ≤ r.2 ∧ r.2 ≤ (122 : Int32))) → ok (f_X7_runs_L20 p0 p1 n v6 v7 M8 k4) (fun r => IV A B r.1 ∧ (101 : Int32) ≤ r.2 ∧ r.2 ≤ (122 : Int32)) := by
  intro n
  induction n with
  | zero =>
    intro v6 v7 M8 k4 hF iv6 iv7 hM8 x0 hk
    exact (FU.stop hF (show (M8.1 26 0 40) ≤ (300 : Int32) from (hM8.at1 26 0 40).2)).elim
  | succ n ih =>
    intro v6 v7 M8 k4 hF iv6 iv7 hM8 x0 hk
    rw [f_X7_runs_L20]
    refine ok_gd ?_ (fun g1 => ?_)
    · exact vp_of (by decide) (by grind) (show p0 < (41 : Int32) by grind)
    have g1 := vp_to (by decide) g1
    have g1 : (0 : Int32) ≤ p0 ∧ p0 < (41 : Int32) := g1
    refine ok_ite (fun q2 => ?_) (fun q2 => ?_)
    · exact hk M8 hM8
    · refine ok_gd ?_ (fun g3 => ?_)
      · have c4 : (0 : Int32) ≤ (M8.1 29 0 (p0).toNatClampNeg) ∧ (M8.1 29 0 (p0).toNatClampNeg) ≤ (24 : Int32) := hM8.at1 29 0 ((p0).toNatClampNeg)
        exact vp_of (by decide) (by grind) (show (((24 : Int32) * p0) + v6) < (984 : Int32) by grind)
      have g3 := vp_to (by decide) g3
      have g3 : (0 : Int32) ≤ (((24 : Int32) * p0) + v6) ∧ (((24 : Int32) * p0) + v6) < (984 : Int32) := g3
      refine ok_lq (fun v26 eq_5 => ?_)
      have l26 : isL v26 := by
        have c29 : (0 : Int32) ≤ M8.1 29 0 (p0).toNatClampNeg ∧ M8.1 29 0 (p0).toNatClampNeg ≤ (24 : Int32) := hM8.at1 29 0 (p0).toNatClampNeg
        rw [eq_5]
        exact hM8.2.get (by grind) (by grind) (by grind) (by grind) (by grind)
      refine ok_ite (fun q6 => ?_) (fun q6 => ?_)
      · unfold f_X7_runs_J66
        have pf7 : (0 : Int32) ≤ v26 ∧ v26 ≤ (65535 : Int32) := by
          have c8 : (0 : Int32) ≤ (M8.1 27 0 ((((24 : Int32) * p0) + v6)).toNatClampNeg) ∧ (M8.1 27 0 ((((24 : Int32) * p0) + v6)).toNatClampNeg) ≤ (65535 : Int32) := hM8.at1 27 0 (((((24 : Int32) * p0) + v6)).toNatClampNeg)
          have c9 : (0 : Int32) ≤ (M8.1 29 0 (p0).toNatClampNeg) ∧ (M8.1 29 0 (p0).toNatClampNeg) ≤ (24 : Int32) := hM8.at1 29 0 ((p0).toNatClampNeg)
          exact ⟨by grind, by grind⟩
        have pf10 : (0 : Int32) ≤ p1 ∧ p1 ≤ (39 : Int32) := by
          have c11 : (0 : Int32) ≤ (M8.1 34 0 (p1).toNatClampNeg) ∧ (M8.1 34 0 (p1).toNatClampNeg) ≤ (4 : Int32) := hM8.at1 34 0 ((p1).toNatClampNeg)
          exact ⟨by grind, by grind⟩
        have pf12 : (0 : Int32) ≤ v7 ∧ v7 ≤ (4 : Int32) := by
          have c13 : (0 : Int32) ≤ (M8.1 34 0 (p1).toNatClampNeg) ∧ (M8.1 34 0 (p1).toNatClampNeg) ≤ (4 : Int32) := hM8.at1 34 0 ((p1).toNatClampNeg)
          exact ⟨by grind, by grind⟩
        have pf14 : (0 : Int32) ≤ p0 ∧ p0 ≤ (40 : Int32) := by
          have c15 : (0 : Int32) ≤ (M8.1 29 0 (p0).toNatClampNeg) ∧ (M8.1 29 0 (p0).toNatClampNeg) ≤ (24 : Int32) := hM8.at1 29 0 ((p0).toNatClampNeg)
          exact ⟨by grind, by grind⟩
        have pf16 : (0 : Int32) ≤ v6 ∧ v6 ≤ (23 : Int32) := by
          have c17 : (0 : Int32) ≤ (M8.1 29 0 (p0).toNatClampNeg) ∧ (M8.1 29 0 (p0).toNatClampNeg) ≤ (24 : Int32) := hM8.at1 29 0 ((p0).toNatClampNeg)
          exact ⟨by grind, by grind⟩
        have pf18 : isL v26 := by
          have c19 : (0 : Int32) ≤ (M8.1 27 0 ((((24 : Int32) * p0) + v6)).toNatClampNeg) ∧ (M8.1 27 0 ((((24 : Int32) * p0) + v6)).toNatClampNeg) ≤ (65535 : Int32) := hM8.at1 27 0 (((((24 : Int32) * p0) + v6)).toNatClampNeg)
          have c20 : (0 : Int32) ≤ (M8.1 29 0 (p0).toNatClampNeg) ∧ (M8.1 29 0 (p0).toNatClampNeg) ≤ (24 : Int32) := hM8.at1 29 0 ((p0).toNatClampNeg)
          grind
        have pf21 : ((1 : Int32) = 0 ∧ ¬ v26 = 110 ∧ ¬ v26 = 105 ∧ ¬ v26 = 100) ∨ ((1 : Int32) = 1 ∧ (v26 = 110 ∨ v26 = 105 ∨ v26 = 100)) := by
          have c22 : (0 : Int32) ≤ (M8.1 27 0 ((((24 : Int32) * p0) + v6)).toNatClampNeg) ∧ (M8.1 27 0 ((((24 : Int32) * p0) + v6)).toNatClampNeg) ≤ (65535 : Int32) := hM8.at1 27 0 (((((24 : Int32) * p0) + v6)).toNatClampNeg)
          have c23 : (0 : Int32) ≤ (M8.1 29 0 (p0).toNatClampNeg) ∧ (M8.1 29 0 (p0).toNatClampNeg) ≤ (24 : Int32) := hM8.at1 29 0 ((p0).toNatClampNeg)
          grind
        have pf24 : v7 ≤ (M8.1 34 0 (p1).toNatClampNeg) := by
          have c25 : (0 : Int32) ≤ (M8.1 34 0 (p1).toNatClampNeg) ∧ (M8.1 34 0 (p1).toNatClampNeg) ≤ (4 : Int32) := hM8.at1 34 0 ((p1).toNatClampNeg)
          grind
        exact s_X7_runs_J71 M8 hM8 v26 pf7 p1 pf10 v7 pf12 p0 pf14 v6 pf16 (1 : Int32) (show (0 : Int32) ≤ (1 : Int32) ∧ (1 : Int32) ≤ (1 : Int32) from ⟨by decide, by decide⟩) pf18 pf21 pf24 (a1) (a2) (a3) (fun p => a4 p) (fun p => a5 p) ((f_X7_runs_L20 p0 p1 n)) ih k4 hk hF
      · refine ok_ite (fun q26 => ?_) (fun q26 => ?_)
        · unfold f_X7_runs_J66
          have pf27 : (0 : Int32) ≤ v26 ∧ v26 ≤ (65535 : Int32) := by
            have c28 : (0 : Int32) ≤ (M8.1 27 0 ((((24 : Int32) * p0) + v6)).toNatClampNeg) ∧ (M8.1 27 0 ((((24 : Int32) * p0) + v6)).toNatClampNeg) ≤ (65535 : Int32) := hM8.at1 27 0 (((((24 : Int32) * p0) + v6)).toNatClampNeg)
            have c29 : (0 : Int32) ≤ (M8.1 29 0 (p0).toNatClampNeg) ∧ (M8.1 29 0 (p0).toNatClampNeg) ≤ (24 : Int32) := hM8.at1 29 0 ((p0).toNatClampNeg)
            exact ⟨by grind, by grind⟩
          have pf30 : (0 : Int32) ≤ p1 ∧ p1 ≤ (39 : Int32) := by
            have c31 : (0 : Int32) ≤ (M8.1 34 0 (p1).toNatClampNeg) ∧ (M8.1 34 0 (p1).toNatClampNeg) ≤ (4 : Int32) := hM8.at1 34 0 ((p1).toNatClampNeg)
            exact ⟨by grind, by grind⟩
          have pf32 : (0 : Int32) ≤ v7 ∧ v7 ≤ (4 : Int32) := by
            have c33 : (0 : Int32) ≤ (M8.1 34 0 (p1).toNatClampNeg) ∧ (M8.1 34 0 (p1).toNatClampNeg) ≤ (4 : Int32) := hM8.at1 34 0 ((p1).toNatClampNeg)
            exact ⟨by grind, by grind⟩
          have pf34 : (0 : Int32) ≤ p0 ∧ p0 ≤ (40 : Int32) := by
            have c35 : (0 : Int32) ≤ (M8.1 29 0 (p0).toNatClampNeg) ∧ (M8.1 29 0 (p0).toNatClampNeg) ≤ (24 : Int32) := hM8.at1 29 0 ((p0).toNatClampNeg)
            exact ⟨by grind, by grind⟩
          have pf36 : (0 : Int32) ≤ v6 ∧ v6 ≤ (23 : Int32) := by
            have c37 : (0 : Int32) ≤ (M8.1 29 0 (p0).toNatClampNeg) ∧ (M8.1 29 0 (p0).toNatClampNeg) ≤ (24 : Int32) := hM8.at1 29 0 ((p0).toNatClampNeg)
            exact ⟨by grind, by grind⟩
          have pf38 : isL v26 := by
            have c39 : (0 : Int32) ≤ (M8.1 27 0 ((((24 : Int32) * p0) + v6)).toNatClampNeg) ∧ (M8.1 27 0 ((((24 : Int32) * p0) + v6)).toNatClampNeg) ≤ (65535 : Int32) := hM8.at1 27 0 (((((24 : Int32) * p0) + v6)).toNatClampNeg)
            have c40 : (0 : Int32) ≤ (M8.1 29 0 (p0).toNatClampNeg) ∧ (M8.1 29 0 (p0).toNatClampNeg) ≤ (24 : Int32) := hM8.at1 29 0 ((p0).toNatClampNeg)
            grind
          have pf41 : ((1 : Int32) = 0 ∧ ¬ v26 = 110 ∧ ¬ v26 = 105 ∧ ¬ v26 = 100) ∨ ((1 : Int32) = 1 ∧ (v26 = 110 ∨ v26 = 105 ∨ v26 = 100)) := by
            have c42 : (0 : Int32) ≤ (M8.1 27 0 ((((24 : Int32) * p0) + v6)).toNatClampNeg) ∧ (M8.1 27 0 ((((24 : Int32) * p0) + v6)).toNatClampNeg) ≤ (65535 : Int32) := hM8.at1 27 0 (((((24 : Int32) * p0) + v6)).toNatClampNeg)
            have c43 : (0 : Int32) ≤ (M8.1 29 0 (p0).toNatClampNeg) ∧ (M8.1 29 0 (p0).toNatClampNeg) ≤ (24 : Int32) := hM8.at1 29 0 ((p0).toNatClampNeg)
            grind
          have pf44 : v7 ≤ (M8.1 34 0 (p1).toNatClampNeg) := by
            have c45 : (0 : Int32) ≤ (M8.1 34 0 (p1).toNatClampNeg) ∧ (M8.1 34 0 (p1).toNatClampNeg) ≤ (4 : Int32) := hM8.at1 34 0 ((p1).toNatClampNeg)
            grind
          exact s_X7_runs_J71 M8 hM8 v26 pf27 p1 pf30 v7 pf32 p0 pf34 v6 pf36 (1 : Int32) (show (0 : Int32) ≤ (1 : Int32) ∧ (1 : Int32) ≤ (1 : Int32) from ⟨by decide, by decide⟩) pf38 pf41 pf44 (a1) (a2) (a3) (fun p => a4 p) (fun p => a5 p) ((f_X7_runs_L20 p0 p1 n)) ih k4 hk hF
        · refine ok_ite (fun q46 => ?_) (fun q46 => ?_)
          · unfold f_X7_runs_J66
            have pf47 : (0 : Int32) ≤ v26 ∧ v26 ≤ (65535 : Int32) := by
              have c48 : (0 : Int32) ≤ (M8.1 27 0 ((((24 : Int32) * p0) + v6)).toNatClampNeg) ∧ (M8.1 27 0 ((((24 : Int32) * p0) + v6)).toNatClampNeg) ≤ (65535 : Int32) := hM8.at1 27 0 (((((24 : Int32) * p0) + v6)).toNatClampNeg)
              have c49 : (0 : Int32) ≤ (M8.1 29 0 (p0).toNatClampNeg) ∧ (M8.1 29 0 (p0).toNatClampNeg) ≤ (24 : Int32) := hM8.at1 29 0 ((p0).toNatClampNeg)
              exact ⟨by grind, by grind⟩
            have pf50 : (0 : Int32) ≤ p1 ∧ p1 ≤ (39 : Int32) := by
              have c51 : (0 : Int32) ≤ (M8.1 34 0 (p1).toNatClampNeg) ∧ (M8.1 34 0 (p1).toNatClampNeg) ≤ (4 : Int32) := hM8.at1 34 0 ((p1).toNatClampNeg)
              exact ⟨by grind, by grind⟩
            have pf52 : (0 : Int32) ≤ v7 ∧ v7 ≤ (4 : Int32) := by
              have c53 : (0 : Int32) ≤ (M8.1 34 0 (p1).toNatClampNeg) ∧ (M8.1 34 0 (p1).toNatClampNeg) ≤ (4 : Int32) := hM8.at1 34 0 ((p1).toNatClampNeg)
              exact ⟨by grind, by grind⟩
            have pf54 : (0 : Int32) ≤ p0 ∧ p0 ≤ (40 : Int32) := by
              have c55 : (0 : Int32) ≤ (M8.1 29 0 (p0).toNatClampNeg) ∧ (M8.1 29 0 (p0).toNatClampNeg) ≤ (24 : Int32) := hM8.at1 29 0 ((p0).toNatClampNeg)
              exact ⟨by grind, by grind⟩
            have pf56 : (0 : Int32) ≤ v6 ∧ v6 ≤ (23 : Int32) := by
              have c57 : (0 : Int32) ≤ (M8.1 29 0 (p0).toNatClampNeg) ∧ (M8.1 29 0 (p0).toNatClampNeg) ≤ (24 : Int32) := hM8.at1 29 0 ((p0).toNatClampNeg)
              exact ⟨by grind, by grind⟩
            have pf58 : isL v26 := by
              have c59 : (0 : Int32) ≤ (M8.1 27 0 ((((24 : Int32) * p0) + v6)).toNatClampNeg) ∧ (M8.1 27 0 ((((24 : Int32) * p0) + v6)).toNatClampNeg) ≤ (65535 : Int32) := hM8.at1 27 0 (((((24 : Int32) * p0) + v6)).toNatClampNeg)
              have c60 : (0 : Int32) ≤ (M8.1 29 0 (p0).toNatClampNeg) ∧ (M8.1 29 0 (p0).toNatClampNeg) ≤ (24 : Int32) := hM8.at1 29 0 ((p0).toNatClampNeg)
              grind
            have pf61 : ((1 : Int32) = 0 ∧ ¬ v26 = 110 ∧ ¬ v26 = 105 ∧ ¬ v26 = 100) ∨ ((1 : Int32) = 1 ∧ (v26 = 110 ∨ v26 = 105 ∨ v26 = 100)) := by
              have c62 : (0 : Int32) ≤ (M8.1 27 0 ((((24 : Int32) * p0) + v6)).toNatClampNeg) ∧ (M8.1 27 0 ((((24 : Int32) * p0) + v6)).toNatClampNeg) ≤ (65535 : Int32) := hM8.at1 27 0 (((((24 : Int32) * p0) + v6)).toNatClampNeg)
              have c63 : (0 : Int32) ≤ (M8.1 29 0 (p0).toNatClampNeg) ∧ (M8.1 29 0 (p0).toNatClampNeg) ≤ (24 : Int32) := hM8.at1 29 0 ((p0).toNatClampNeg)
              grind
            have pf64 : v7 ≤ (M8.1 34 0 (p1).toNatClampNeg) := by
              have c65 : (0 : Int32) ≤ (M8.1 34 0 (p1).toNatClampNeg) ∧ (M8.1 34 0 (p1).toNatClampNeg) ≤ (4 : Int32) := hM8.at1 34 0 ((p1).toNatClampNeg)
              grind
            exact s_X7_runs_J71 M8 hM8 v26 pf47 p1 pf50 v7 pf52 p0 pf54 v6 pf56 (1 : Int32) (show (0 : Int32) ≤ (1 : Int32) ∧ (1 : Int32) ≤ (1 : Int32) from ⟨by decide, by decide⟩) pf58 pf61 pf64 (a1) (a2) (a3) (fun p => a4 p) (fun p => a5 p) ((f_X7_runs_L20 p0 p1 n)) ih k4 hk hF
          · have pf66 : (0 : Int32) ≤ v26 ∧ v26 ≤ (65535 : Int32) := by
              have c67 : (0 : Int32) ≤ (M8.1 27 0 ((((24 : Int32) * p0) + v6)).toNatClampNeg) ∧ (M8.1 27 0 ((((24 : Int32) * p0) + v6)).toNatClampNeg) ≤ (65535 : Int32) := hM8.at1 27 0 (((((24 : Int32) * p0) + v6)).toNatClampNeg)
              have c68 : (0 : Int32) ≤ (M8.1 29 0 (p0).toNatClampNeg) ∧ (M8.1 29 0 (p0).toNatClampNeg) ≤ (24 : Int32) := hM8.at1 29 0 ((p0).toNatClampNeg)
              exact ⟨by grind, by grind⟩
            have pf69 : (0 : Int32) ≤ p1 ∧ p1 ≤ (39 : Int32) := by
              have c70 : (0 : Int32) ≤ (M8.1 34 0 (p1).toNatClampNeg) ∧ (M8.1 34 0 (p1).toNatClampNeg) ≤ (4 : Int32) := hM8.at1 34 0 ((p1).toNatClampNeg)
              exact ⟨by grind, by grind⟩
            have pf71 : (0 : Int32) ≤ v7 ∧ v7 ≤ (4 : Int32) := by
              have c72 : (0 : Int32) ≤ (M8.1 34 0 (p1).toNatClampNeg) ∧ (M8.1 34 0 (p1).toNatClampNeg) ≤ (4 : Int32) := hM8.at1 34 0 ((p1).toNatClampNeg)
              exact ⟨by grind, by grind⟩
            have pf73 : (0 : Int32) ≤ p0 ∧ p0 ≤ (40 : Int32) := by
              have c74 : (0 : Int32) ≤ (M8.1 29 0 (p0).toNatClampNeg) ∧ (M8.1 29 0 (p0).toNatClampNeg) ≤ (24 : Int32) := hM8.at1 29 0 ((p0).toNatClampNeg)
              exact ⟨by grind, by grind⟩
            have pf75 : (0 : Int32) ≤ v6 ∧ v6 ≤ (23 : Int32) := by
              have c76 : (0 : Int32) ≤ (M8.1 29 0 (p0).toNatClampNeg) ∧ (M8.1 29 0 (p0).toNatClampNeg) ≤ (24 : Int32) := hM8.at1 29 0 ((p0).toNatClampNeg)
              exact ⟨by grind, by grind⟩
            have pf77 : isL v26 := by
              have c78 : (0 : Int32) ≤ (M8.1 27 0 ((((24 : Int32) * p0) + v6)).toNatClampNeg) ∧ (M8.1 27 0 ((((24 : Int32) * p0) + v6)).toNatClampNeg) ≤ (65535 : Int32) := hM8.at1 27 0 (((((24 : Int32) * p0) + v6)).toNatClampNeg)
              have c79 : (0 : Int32) ≤ (M8.1 29 0 (p0).toNatClampNeg) ∧ (M8.1 29 0 (p0).toNatClampNeg) ≤ (24 : Int32) := hM8.at1 29 0 ((p0).toNatClampNeg)
              grind
            have pf80 : ((0 : Int32) = 0 ∧ ¬ v26 = 110 ∧ ¬ v26 = 105 ∧ ¬ v26 = 100) ∨ ((0 : Int32) = 1 ∧ (v26 = 110 ∨ v26 = 105 ∨ v26 = 100)) := by
              have c81 : (0 : Int32) ≤ (M8.1 27 0 ((((24 : Int32) * p0) + v6)).toNatClampNeg) ∧ (M8.1 27 0 ((((24 : Int32) * p0) + v6)).toNatClampNeg) ≤ (65535 : Int32) := hM8.at1 27 0 (((((24 : Int32) * p0) + v6)).toNatClampNeg)
              have c82 : (0 : Int32) ≤ (M8.1 29 0 (p0).toNatClampNeg) ∧ (M8.1 29 0 (p0).toNatClampNeg) ≤ (24 : Int32) := hM8.at1 29 0 ((p0).toNatClampNeg)
              grind
            have pf83 : v7 ≤ (M8.1 34 0 (p1).toNatClampNeg) := by
              have c84 : (0 : Int32) ≤ (M8.1 34 0 (p1).toNatClampNeg) ∧ (M8.1 34 0 (p1).toNatClampNeg) ≤ (4 : Int32) := hM8.at1 34 0 ((p1).toNatClampNeg)
              grind
            exact s_X7_runs_J71 M8 hM8 v26 pf66 p1 pf69 v7 pf71 p0 pf73 v6 pf75 (0 : Int32) (show (0 : Int32) ≤ (0 : Int32) ∧ (0 : Int32) ≤ (1 : Int32) from ⟨by decide, by decide⟩) pf77 pf80 pf83 (a1) (a2) (a3) (fun p => a4 p) (fun p => a5 p) (f_X7_runs_L20 p0 p1 n) ih k4 hk hF
theorem s_X7_runs {A : Nat → Nat → Nat → Prop} {B : SS} (M : SS) (hM : IV A B M) (p0 : Int32) (ip0 : (0 : Int32) ≤ p0 ∧ p0 ≤ (40 : Int32)) (p1 : Int32) (ip1 : (0 : Int32) ≤ p1 ∧ p1 ≤ (39 : Int32)) (a1 : A 26 0 38) (a2 : A 26 0 39) (a3 : A 26 0 40) (a4 : ∀ p, A 53 0 p) (a5 : ∀ p, A 54 0 p) : ok (f_X7_runs M p0 p1) (fun r => IV A B r.1 ∧ (101 : Int32) ≤ r.2 ∧ r.2 ≤ (122 : Int32)) := by
  unfold f_X7_runs
  refine ok_lq (fun M1 eq_1 => ?_)
  have hM1 : IV A B M1 := by rw [eq_1]; exact hM.w1 rfl (a1) (show (0 : Int32) ≤ (0 : Int32) ∧ (0 : Int32) ≤ (12 : Int32) from ⟨by decide, by decide⟩)
  refine ok_lq (fun M2 eq_2 => ?_)
  have hM2 : IV A B M2 := by rw [eq_2]; exact hM1.w1 rfl (a2) (show (0 : Int32) ≤ (0 : Int32) ∧ (0 : Int32) ≤ (6 : Int32) from ⟨by decide, by decide⟩)
  refine ok_lq (fun M3 eq_3 => ?_)
  have hM3 : IV A B M3 := by rw [eq_3]; exact hM2.w1 rfl (a3) (show (0 : Int32) ≤ (0 : Int32) ∧ (0 : Int32) ≤ (300 : Int32) from ⟨by decide, by decide⟩)
  have pf4 : (0 : Int32) ≤ p0 ∧ p0 ≤ (40 : Int32) := by
    exact ⟨by grind, by grind⟩
  have pf5 : (0 : Int32) ≤ p1 ∧ p1 ≤ (39 : Int32) := by
    exact ⟨by grind, by grind⟩
  have pf6 : FU (M3.1 26 0 40) 300 1000 := by
    have c7 : (0 : Int32) ≤ (M3.1 26 0 40) ∧ (M3.1 26 0 40) ≤ (300 : Int32) := hM3.at1 26 0 40
    have c8 : (M3.1 26 0 40) = (0 : Int32) := by rw [eq_3]; exact up_s
    exact FU.start (by grind) (by decide)
  have pf9 : (0 : Int32) ≤ (M3.1 34 0 (p1).toNatClampNeg) := by
    have c10 : (0 : Int32) ≤ (M3.1 34 0 (p1).toNatClampNeg) ∧ (M3.1 34 0 (p1).toNatClampNeg) ≤ (4 : Int32) := hM3.at1 34 0 ((p1).toNatClampNeg)
    have c11 : (M3.1 34 0 (p1).toNatClampNeg) = (M2.1 34 0 (p1).toNatClampNeg) := by rw [eq_3]; exact up_k (by decide)
    have c12 : (0 : Int32) ≤ (M2.1 34 0 (p1).toNatClampNeg) ∧ (M2.1 34 0 (p1).toNatClampNeg) ≤ (4 : Int32) := hM2.at1 34 0 ((p1).toNatClampNeg)
    have c13 : (M2.1 34 0 (p1).toNatClampNeg) = (M1.1 34 0 (p1).toNatClampNeg) := by rw [eq_2]; exact up_k (by decide)
    have c14 : (0 : Int32) ≤ (M1.1 34 0 (p1).toNatClampNeg) ∧ (M1.1 34 0 (p1).toNatClampNeg) ≤ (4 : Int32) := hM1.at1 34 0 ((p1).toNatClampNeg)
    have c15 : (M1.1 34 0 (p1).toNatClampNeg) = (M.1 34 0 (p1).toNatClampNeg) := by rw [eq_1]; exact up_k (by decide)
    have c16 : (0 : Int32) ≤ (M.1 34 0 (p1).toNatClampNeg) ∧ (M.1 34 0 (p1).toNatClampNeg) ≤ (4 : Int32) := hM.at1 34 0 ((p1).toNatClampNeg)
    grind
  refine s_X7_runs_L20 p0 pf4 p1 pf5 (a1) (a2) (a3) (fun p => a4 p) (fun p => a5 p) 1000 (0 : Int32) (0 : Int32) M3 _ pf6 (show (0 : Int32) ≤ (0 : Int32) ∧ (0 : Int32) ≤ (24 : Int32) from ⟨by decide, by decide⟩) (show (0 : Int32) ≤ (0 : Int32) ∧ (0 : Int32) ≤ (4 : Int32) from ⟨by decide, by decide⟩) hM3 pf9 (fun M5 hM5 => ?_)
  refine ok_gd ?_ (fun g17 => ?_)
  · exact vp_of (by decide) (by grind) (show p1 < (40 : Int32) by grind)
  have g17 := vp_to (by decide) g17
  have g17 : (0 : Int32) ≤ p1 ∧ p1 < (40 : Int32) := g17
  refine ok_ite (fun q18 => ?_) (fun q18 => ?_)
  · unfold f_X7_runs_J394
    have pf19 : (0 : Int32) ≤ p1 ∧ p1 ≤ (39 : Int32) := by
      have c20 : (0 : Int32) ≤ (M5.1 26 0 39) ∧ (M5.1 26 0 39) ≤ (6 : Int32) := hM5.at1 26 0 39
      have c21 : (0 : Int32) ≤ (M5.1 35 0 (p1).toNatClampNeg) ∧ (M5.1 35 0 (p1).toNatClampNeg) ≤ (6 : Int32) := hM5.at1 35 0 ((p1).toNatClampNeg)
      exact ⟨by grind, by grind⟩
    have pf22 : FU (0 : Int32) 6 1000 := by
      exact FU.start (by grind) (by decide)
    refine s_X7_runs_L399 M5 hM5 p1 pf19 1000 (0 : Int32) (1 : Int32) _ pf22 (show (0 : Int32) ≤ (0 : Int32) ∧ (0 : Int32) ≤ (6 : Int32) from ⟨by decide, by decide⟩) (show (0 : Int32) ≤ (1 : Int32) ∧ (1 : Int32) ≤ (1 : Int32) from ⟨by decide, by decide⟩) (fun v13 wv13 => ?_)
    have wv13 : (0 : Int32) ≤ v13 ∧ v13 ≤ (1 : Int32) := wv13
    refine ok_ite (fun q23 => ?_) (fun q23 => ?_)
    · have pf24 : (101 : Int32) ≤ (119 : Int32) ∧ (119 : Int32) ≤ (122 : Int32) := by
        exact ⟨by grind, by grind⟩
      exact ok_some ⟨hM5, pf24⟩
    · have pf25 : (101 : Int32) ≤ (111 : Int32) ∧ (111 : Int32) ≤ (122 : Int32) := by
        exact ⟨by grind, by grind⟩
      exact ok_some ⟨hM5, pf25⟩
  · unfold f_X7_runs_J394
    have pf26 : (0 : Int32) ≤ p1 ∧ p1 ≤ (39 : Int32) := by
      have c27 : (0 : Int32) ≤ (M5.1 26 0 39) ∧ (M5.1 26 0 39) ≤ (6 : Int32) := hM5.at1 26 0 39
      have c28 : (0 : Int32) ≤ (M5.1 35 0 (p1).toNatClampNeg) ∧ (M5.1 35 0 (p1).toNatClampNeg) ≤ (6 : Int32) := hM5.at1 35 0 ((p1).toNatClampNeg)
      exact ⟨by grind, by grind⟩
    have pf29 : FU (0 : Int32) 6 1000 := by
      exact FU.start (by grind) (by decide)
    refine s_X7_runs_L399 M5 hM5 p1 pf26 1000 (0 : Int32) (0 : Int32) _ pf29 (show (0 : Int32) ≤ (0 : Int32) ∧ (0 : Int32) ≤ (6 : Int32) from ⟨by decide, by decide⟩) (show (0 : Int32) ≤ (0 : Int32) ∧ (0 : Int32) ≤ (1 : Int32) from ⟨by decide, by decide⟩) (fun v13 wv13 => ?_)
    have wv13 : (0 : Int32) ≤ v13 ∧ v13 ≤ (1 : Int32) := wv13
    refine ok_ite (fun q30 => ?_) (fun q30 => ?_)
    · have pf31 : (101 : Int32) ≤ (119 : Int32) ∧ (119 : Int32) ≤ (122 : Int32) := by
        exact ⟨by grind, by grind⟩
      exact ok_some ⟨hM5, pf31⟩
    · have pf32 : (101 : Int32) ≤ (111 : Int32) ∧ (111 : Int32) ≤ (122 : Int32) := by
        exact ⟨by grind, by grind⟩
      exact ok_some ⟨hM5, pf32⟩
theorem s_X7_sumOf_L7 {A : Nat → Nat → Nat → Prop} {B : SS} (p0 : Int32) (ip0 : (0 : Int32) ≤ p0 ∧ p0 ≤ (40 : Int32)) (M : SS) (hM : IV A B M) : ∀ (n : Nat), ∀ (v4 : Int32) (v5 : Int64) (k2 : (Int64 → Option (Int64))), (FU v4 24 n) → ((0 : Int32) ≤ v4 ∧ v4 ≤ (24 : Int32)) → (∀ (k_0 : Int64), ok (k2 k_0) (fun r => True)) → ok (f_X7_sumOf_L7 p0 M n v4 v5 k2) (fun r => True) := by
  intro n
  induction n with
  | zero =>
    intro v4 v5 k2 hF iv4 hk
    exact (FU.stop hF (show v4 ≤ (24 : Int32) by grind)).elim
  | succ n ih =>
    intro v4 v5 k2 hF iv4 hk
    rw [f_X7_sumOf_L7]
    refine ok_gd ?_ (fun g1 => ?_)
    · exact vp_of (by decide) (by grind) (show p0 < (41 : Int32) by grind)
    have g1 := vp_to (by decide) g1
    have g1 : (0 : Int32) ≤ p0 ∧ p0 < (41 : Int32) := g1
    refine ok_ite (fun q2 => ?_) (fun q2 => ?_)
    · exact hk v5
    · refine ok_gd ?_ (fun g3 => ?_)
      · have c4 : (0 : Int32) ≤ (M.1 29 0 (p0).toNatClampNeg) ∧ (M.1 29 0 (p0).toNatClampNeg) ≤ (24 : Int32) := hM.at1 29 0 ((p0).toNatClampNeg)
        exact vp_of (by decide) (by grind) (show (((24 : Int32) * p0) + v4) < (984 : Int32) by grind)
      have g3 := vp_to (by decide) g3
      have g3 : (0 : Int32) ≤ (((24 : Int32) * p0) + v4) ∧ (((24 : Int32) * p0) + v4) < (984 : Int32) := g3
      refine ok_gd ?_ (fun g5 => ?_)
      · have c6 : (0 : Int32) ≤ (M.1 29 0 (p0).toNatClampNeg) ∧ (M.1 29 0 (p0).toNatClampNeg) ≤ (24 : Int32) := hM.at1 29 0 ((p0).toNatClampNeg)
        exact vp_of (by decide) (by grind) (show (((24 : Int32) * p0) + v4) < (984 : Int32) by grind)
      have g5 := vp_to (by decide) g5
      have g5 : (0 : Int32) ≤ (((24 : Int32) * p0) + v4) ∧ (((24 : Int32) * p0) + v4) < (984 : Int32) := g5
      refine ok_lq (fun v10 eq_7 => ?_)
      have pf8 : FU (v4 + (1 : Int32)) 24 n := by
        have c9 : (0 : Int32) ≤ (M.1 29 0 (p0).toNatClampNeg) ∧ (M.1 29 0 (p0).toNatClampNeg) ≤ (24 : Int32) := hM.at1 29 0 ((p0).toNatClampNeg)
        exact FU.step hF (by grind)
      have pf10 : (0 : Int32) ≤ (v4 + (1 : Int32)) ∧ (v4 + (1 : Int32)) ≤ (24 : Int32) := by
        have c11 : (0 : Int32) ≤ (M.1 29 0 (p0).toNatClampNeg) ∧ (M.1 29 0 (p0).toNatClampNeg) ≤ (24 : Int32) := hM.at1 29 0 ((p0).toNatClampNeg)
        exact ⟨by grind, by grind⟩
      exact ih (v4 + (1 : Int32)) v10 k2 pf8 pf10 hk
theorem s_X7_sumOf {A : Nat → Nat → Nat → Prop} {B : SS} (M : SS) (hM : IV A B M) (p0 : Int32) (ip0 : (0 : Int32) ≤ p0 ∧ p0 ≤ (40 : Int32)) : ok (f_X7_sumOf M p0) (fun r => True) := by
  unfold f_X7_sumOf
  refine ok_lq (fun v1 eq_1 => ?_)
  have pf2 : (0 : Int32) ≤ p0 ∧ p0 ≤ (40 : Int32) := by
    exact ⟨by grind, by grind⟩
  have pf3 : FU (0 : Int32) 24 1000 := by
    exact FU.start (by grind) (by decide)
  refine s_X7_sumOf_L7 p0 pf2 M hM 1000 (0 : Int32) v1 _ pf3 (show (0 : Int32) ≤ (0 : Int32) ∧ (0 : Int32) ≤ (24 : Int32) from ⟨by decide, by decide⟩) (fun v3 => ?_)
  exact ok_some trivial
theorem s_X7_isKata {A : Nat → Nat → Nat → Prop} {B : SS} (M : SS) (hM : IV A B M) (p0 : Int32) : ok (f_X7_isKata M p0) (fun r => (0 : Int32) ≤ r ∧ r ≤ (1 : Int32) ∧ ((r = 0 ∧ (p0 < 0 ∨ (M.1 26 0 3) ≤ p0)) ∨ (r = 1 ∧ 0 ≤ p0 ∧ p0 < (M.1 26 0 3)))) := by
  unfold f_X7_isKata
  have pf1 : ((-1) : Int32) ≤ ((M.1 26 0 3) - (1 : Int32)) ∧ ((M.1 26 0 3) - (1 : Int32)) ≤ (999 : Int32) := by
    have c2 : (0 : Int32) ≤ (M.1 26 0 3) ∧ (M.1 26 0 3) ≤ (8 : Int32) := hM.at1 26 0 3
    exact ⟨by grind, by grind⟩
  refine ok_b0 (s_X7_in p0 (0 : Int32) (show ((-999) : Int32) ≤ (0 : Int32) ∧ (0 : Int32) ≤ (1 : Int32) from ⟨by decide, by decide⟩) ((M.1 26 0 3) - (1 : Int32)) pf1) (fun v1 w3 => ?_)
  have w4 : (0 : Int32) ≤ v1 ∧ v1 ≤ (1 : Int32) ∧ ((v1 = 0 ∧ (p0 < (0 : Int32) ∨ ((M.1 26 0 3) - (1 : Int32)) < p0)) ∨ (v1 = 1 ∧ (0 : Int32) ≤ p0 ∧ p0 ≤ ((M.1 26 0 3) - (1 : Int32)))) := w3
  refine ok_gd ?_ (fun g5 => ?_)
  · have c6 : (0 : Int32) ≤ (M.1 26 0 3) ∧ (M.1 26 0 3) ≤ (8 : Int32) := hM.at1 26 0 3
    exact okz_of (by grind) (by grind)
  have pf7 : (0 : Int32) ≤ v1 ∧ v1 ≤ (1 : Int32) ∧ ((v1 = 0 ∧ (p0 < 0 ∨ (M.1 26 0 3) ≤ p0)) ∨ (v1 = 1 ∧ 0 ≤ p0 ∧ p0 < (M.1 26 0 3))) := by
    have c8 : (0 : Int32) ≤ (M.1 26 0 3) ∧ (M.1 26 0 3) ≤ (8 : Int32) := hM.at1 26 0 3
    grind
  exact ok_some pf7
theorem s_X7_isTest {A : Nat → Nat → Nat → Prop} {B : SS} (M : SS) (hM : IV A B M) (p0 : Int32) (p1 : Int32) : ok (f_X7_isTest M p0 p1) (fun r => (0 : Int32) ≤ r ∧ r ≤ (1 : Int32) ∧ ((r = 0 ∧ ((p0 < 0 ∨ (M.1 26 0 3) ≤ p0) ∨ p1 < 0 ∨ (M.1 33 0 (p0).toNatClampNeg) ≤ p1)) ∨ (r = 1 ∧ 0 ≤ p0 ∧ p0 < (M.1 26 0 3) ∧ 0 ≤ p1 ∧ p1 < (M.1 33 0 (p0).toNatClampNeg)))) := by
  unfold f_X7_isTest
  refine ok_b0 (s_X7_isKata M hM p0) (fun v1 w1 => ?_)
  have w2 : (0 : Int32) ≤ v1 ∧ v1 ≤ (1 : Int32) ∧ ((v1 = 0 ∧ (p0 < 0 ∨ (M.1 26 0 3) ≤ p0)) ∨ (v1 = 1 ∧ 0 ≤ p0 ∧ p0 < (M.1 26 0 3))) := w1
  refine ok_ite (fun q3 => ?_) (fun q3 => ?_)
  · have pf4 : (0 : Int32) ≤ (0 : Int32) ∧ (0 : Int32) ≤ (1 : Int32) ∧ (((0 : Int32) = 0 ∧ ((p0 < 0 ∨ (M.1 26 0 3) ≤ p0) ∨ p1 < 0 ∨ (M.1 33 0 (p0).toNatClampNeg) ≤ p1)) ∨ ((0 : Int32) = 1 ∧ 0 ≤ p0 ∧ p0 < (M.1 26 0 3) ∧ 0 ≤ p1 ∧ p1 < (M.1 33 0 (p0).toNatClampNeg))) := by
      have c5 : (0 : Int32) ≤ (M.1 26 0 3) ∧ (M.1 26 0 3) ≤ (8 : Int32) := hM.at1 26 0 3
      have c6 : (0 : Int32) ≤ (M.1 33 0 (p0).toNatClampNeg) ∧ (M.1 33 0 (p0).toNatClampNeg) ≤ (5 : Int32) := hM.at1 33 0 ((p0).toNatClampNeg)
      grind
    exact ok_some pf4
  · refine ok_gd ?_ (fun g7 => ?_)
    · have c8 : (0 : Int32) ≤ (M.1 26 0 3) ∧ (M.1 26 0 3) ≤ (8 : Int32) := hM.at1 26 0 3
      exact vp_of (by decide) (by grind) (show p0 < (8 : Int32) by grind)
    have g7 := vp_to (by decide) g7
    have g7 : (0 : Int32) ≤ p0 ∧ p0 < (8 : Int32) := g7
    have pf9 : ((-1) : Int32) ≤ ((M.1 33 0 (p0).toNatClampNeg) - (1 : Int32)) ∧ ((M.1 33 0 (p0).toNatClampNeg) - (1 : Int32)) ≤ (999 : Int32) := by
      have c10 : (0 : Int32) ≤ (M.1 33 0 (p0).toNatClampNeg) ∧ (M.1 33 0 (p0).toNatClampNeg) ≤ (5 : Int32) := hM.at1 33 0 ((p0).toNatClampNeg)
      have c11 : (0 : Int32) ≤ (M.1 26 0 3) ∧ (M.1 26 0 3) ≤ (8 : Int32) := hM.at1 26 0 3
      exact ⟨by grind, by grind⟩
    refine ok_b0 (s_X7_in p1 (0 : Int32) (show ((-999) : Int32) ≤ (0 : Int32) ∧ (0 : Int32) ≤ (1 : Int32) from ⟨by decide, by decide⟩) ((M.1 33 0 (p0).toNatClampNeg) - (1 : Int32)) pf9) (fun v5 w12 => ?_)
    have w13 : (0 : Int32) ≤ v5 ∧ v5 ≤ (1 : Int32) ∧ ((v5 = 0 ∧ (p1 < (0 : Int32) ∨ ((M.1 33 0 (p0).toNatClampNeg) - (1 : Int32)) < p1)) ∨ (v5 = 1 ∧ (0 : Int32) ≤ p1 ∧ p1 ≤ ((M.1 33 0 (p0).toNatClampNeg) - (1 : Int32)))) := w12
    refine ok_ite (fun q14 => ?_) (fun q14 => ?_)
    · have pf15 : (0 : Int32) ≤ (0 : Int32) ∧ (0 : Int32) ≤ (1 : Int32) ∧ (((0 : Int32) = 0 ∧ ((p0 < 0 ∨ (M.1 26 0 3) ≤ p0) ∨ p1 < 0 ∨ (M.1 33 0 (p0).toNatClampNeg) ≤ p1)) ∨ ((0 : Int32) = 1 ∧ 0 ≤ p0 ∧ p0 < (M.1 26 0 3) ∧ 0 ≤ p1 ∧ p1 < (M.1 33 0 (p0).toNatClampNeg))) := by
        have c16 : (0 : Int32) ≤ (M.1 26 0 3) ∧ (M.1 26 0 3) ≤ (8 : Int32) := hM.at1 26 0 3
        have c17 : (0 : Int32) ≤ (M.1 33 0 (p0).toNatClampNeg) ∧ (M.1 33 0 (p0).toNatClampNeg) ≤ (5 : Int32) := hM.at1 33 0 ((p0).toNatClampNeg)
        grind
      exact ok_some pf15
    · have pf18 : (0 : Int32) ≤ (1 : Int32) ∧ (1 : Int32) ≤ (1 : Int32) ∧ (((1 : Int32) = 0 ∧ ((p0 < 0 ∨ (M.1 26 0 3) ≤ p0) ∨ p1 < 0 ∨ (M.1 33 0 (p0).toNatClampNeg) ≤ p1)) ∨ ((1 : Int32) = 1 ∧ 0 ≤ p0 ∧ p0 < (M.1 26 0 3) ∧ 0 ≤ p1 ∧ p1 < (M.1 33 0 (p0).toNatClampNeg))) := by
        have c19 : (0 : Int32) ≤ (M.1 26 0 3) ∧ (M.1 26 0 3) ≤ (8 : Int32) := hM.at1 26 0 3
        have c20 : (0 : Int32) ≤ (M.1 33 0 (p0).toNatClampNeg) ∧ (M.1 33 0 (p0).toNatClampNeg) ≤ (5 : Int32) := hM.at1 33 0 ((p0).toNatClampNeg)
        grind
      exact ok_some pf18
theorem s_X7_kata {A : Nat → Nat → Nat → Prop} {B : SS} (M : SS) (hM : IV A B M) (p0 : Int32) (a1 : A 26 0 3) (a2 : A 26 0 9) (a3 : ∀ p, A 32 0 p) : ok (f_X7_kata M p0) (fun r => IV A B r.1 ∧ True) := by
  unfold f_X7_kata
  refine ok_b0 (s_X7_in p0 (1 : Int32) (show ((-999) : Int32) ≤ (1 : Int32) ∧ (1 : Int32) ≤ (1 : Int32) from ⟨by decide, by decide⟩) (5 : Int32) (show ((-1) : Int32) ≤ (5 : Int32) ∧ (5 : Int32) ≤ (999 : Int32) from ⟨by decide, by decide⟩)) (fun v1 w1 => ?_)
  have w2 : (0 : Int32) ≤ v1 ∧ v1 ≤ (1 : Int32) ∧ ((v1 = 0 ∧ (p0 < (1 : Int32) ∨ (5 : Int32) < p0)) ∨ (v1 = 1 ∧ (1 : Int32) ≤ p0 ∧ p0 ≤ (5 : Int32))) := w1
  refine ok_ite (fun q3 => ?_) (fun q3 => ?_)
  · refine ok_b1 (s_X7_fails M hM (1 : Int32) (show (1 : Int32) ≤ (1 : Int32) ∧ (1 : Int32) ≤ (3 : Int32) from ⟨by decide, by decide⟩) (a2)) (fun M15 v14 w4 => ?_)
    have hM15 : IV A B M15 := w4.1
    have w5 : (0 : Int32) ≤ v14 ∧ v14 ≤ (0 : Int32) := w4.2
    exact ok_some ⟨hM15, trivial⟩
  · refine ok_ite (fun q6 => ?_) (fun q6 => ?_)
    · refine ok_b1 (s_X7_fails M hM (2 : Int32) (show (1 : Int32) ≤ (2 : Int32) ∧ (2 : Int32) ≤ (3 : Int32) from ⟨by decide, by decide⟩) (a2)) (fun M12 v11 w7 => ?_)
      have hM12 : IV A B M12 := w7.1
      have w8 : (0 : Int32) ≤ v11 ∧ v11 ≤ (0 : Int32) := w7.2
      exact ok_some ⟨hM12, trivial⟩
    · refine ok_gd ?_ (fun g9 => ?_)
      · have c10 : (0 : Int32) ≤ (M.1 26 0 3) ∧ (M.1 26 0 3) ≤ (8 : Int32) := hM.at1 26 0 3
        exact vp_of (by decide) (by grind) (show (M.1 26 0 3) < (8 : Int32) by grind)
      have g9 := vp_to (by decide) g9
      have g9 : (0 : Int32) ≤ (M.1 26 0 3) ∧ (M.1 26 0 3) < (8 : Int32) := g9
      refine ok_lq (fun M6 eq_11 => ?_)
      have pf12 : (0 : Int32) ≤ p0 ∧ p0 ≤ (5 : Int32) := by
        exact ⟨by grind, by grind⟩
      have hM6 : IV A B M6 := by rw [eq_11]; exact hM.w1 rfl (a3 (((M.1 26 0 3)).toNatClampNeg)) pf12
      refine ok_lq (fun M7 eq_13 => ?_)
      have pf14 : (0 : Int32) ≤ ((M6.1 26 0 3) + (1 : Int32)) ∧ ((M6.1 26 0 3) + (1 : Int32)) ≤ (8 : Int32) := by
        have c15 : (0 : Int32) ≤ (M6.1 26 0 3) ∧ (M6.1 26 0 3) ≤ (8 : Int32) := hM6.at1 26 0 3
        have c16 : (M6.1 26 0 3) = (M.1 26 0 3) := by rw [eq_11]; exact up_k (by decide)
        have c17 : (0 : Int32) ≤ (M.1 26 0 3) ∧ (M.1 26 0 3) ≤ (8 : Int32) := hM.at1 26 0 3
        exact ⟨by grind, by grind⟩
      have hM7 : IV A B M7 := by rw [eq_13]; exact hM6.w1 rfl (a1) pf14
      refine ok_b1 (s_X7_tells M7 hM7 ((M7.1 26 0 3) - (1 : Int32)) (a2)) (fun M9 v8 w18 => ?_)
      have hM9 : IV A B M9 := w18.1
      exact ok_some ⟨hM9, trivial⟩
theorem s_X7_passes_L5 {A : Nat → Nat → Nat → Prop} {B : SS} (p1 : Int32) (ip1 : (0 : Int32) ≤ p1 ∧ p1 ≤ (7 : Int32)) (p0 : Int32) (ip0 : (0 : Int32) ≤ p0 ∧ p0 ≤ (40 : Int32)) (a1 : A 26 0 38) (a2 : A 26 0 39) (a3 : A 26 0 40) (a4 : ∀ p, A 53 0 p) (a5 : ∀ p, A 54 0 p) : ∀ (n : Nat), ∀ (v4 : Int32) (v5 : Int32) (M6 : SS) (k1 : (Int32 → SS → Option (SS × Int32))), (FU v4 5 n) → ((0 : Int32) ≤ v4 ∧ v4 ≤ (5 : Int32)) → ((0 : Int32) ≤ v5 ∧ v5 ≤ (1 : Int32)) → (IV A B M6) → (∀ (k_0 : Int32) (k_1 : SS), ((0 : Int32) ≤ k_0 ∧ k_0 ≤ (1 : Int32)) → (IV A B k_1) → ok (k1 k_0 k_1) (fun r => IV A B r.1 ∧ (0 : Int32) ≤ r.2 ∧ r.2 ≤ (1 : Int32))) → ok (f_X7_passes_L5 p1 p0 n v4 v5 M6 k1) (fun r => IV A B r.1 ∧ (0 : Int32) ≤ r.2 ∧ r.2 ≤ (1 : Int32)) := by
  intro n
  induction n with
  | zero =>
    intro v4 v5 M6 k1 hF iv4 iv5 hM6 hk
    exact (FU.stop hF (show v4 ≤ (5 : Int32) by grind)).elim
  | succ n ih =>
    intro v4 v5 M6 k1 hF iv4 iv5 hM6 hk
    rw [f_X7_passes_L5]
    refine ok_gd ?_ (fun g1 => ?_)
    · exact vp_of (by decide) (by grind) (show p1 < (8 : Int32) by grind)
    have g1 := vp_to (by decide) g1
    have g1 : (0 : Int32) ≤ p1 ∧ p1 < (8 : Int32) := g1
    refine ok_ite (fun q2 => ?_) (fun q2 => ?_)
    · have pf3 : (0 : Int32) ≤ v5 ∧ v5 ≤ (1 : Int32) := by
        exact ⟨by grind, by grind⟩
      exact hk v5 M6 pf3 hM6
    · refine ok_ite (fun q4 => ?_) (fun q4 => ?_)
      · have pf5 : (0 : Int32) ≤ v5 ∧ v5 ≤ (1 : Int32) := by
          exact ⟨by grind, by grind⟩
        exact hk v5 M6 pf5 hM6
      · have pf6 : (0 : Int32) ≤ p0 ∧ p0 ≤ (40 : Int32) := by
          exact ⟨by grind, by grind⟩
        have pf7 : (0 : Int32) ≤ (((5 : Int32) * p1) + v4) ∧ (((5 : Int32) * p1) + v4) ≤ (39 : Int32) := by
          have c8 : (0 : Int32) ≤ (M6.1 33 0 (p1).toNatClampNeg) ∧ (M6.1 33 0 (p1).toNatClampNeg) ≤ (5 : Int32) := hM6.at1 33 0 ((p1).toNatClampNeg)
          exact ⟨by grind, by grind⟩
        refine ok_b1 (s_X7_runs M6 hM6 p0 pf6 (((5 : Int32) * p1) + v4) pf7 (a1) (a2) (a3) (fun p => a4 p) (fun p => a5 p)) (fun M12 v11 w9 => ?_)
        have hM12 : IV A B M12 := w9.1
        have w10 : (101 : Int32) ≤ v11 ∧ v11 ≤ (122 : Int32) := w9.2
        refine ok_ite (fun q11 => ?_) (fun q11 => ?_)
        · have pf12 : FU (v4 + (1 : Int32)) 5 n := by
            have c13 : (0 : Int32) ≤ (M6.1 33 0 (p1).toNatClampNeg) ∧ (M6.1 33 0 (p1).toNatClampNeg) ≤ (5 : Int32) := hM6.at1 33 0 ((p1).toNatClampNeg)
            exact FU.step hF (by grind)
          have pf14 : (0 : Int32) ≤ (v4 + (1 : Int32)) ∧ (v4 + (1 : Int32)) ≤ (5 : Int32) := by
            have c15 : (0 : Int32) ≤ (M6.1 33 0 (p1).toNatClampNeg) ∧ (M6.1 33 0 (p1).toNatClampNeg) ≤ (5 : Int32) := hM6.at1 33 0 ((p1).toNatClampNeg)
            exact ⟨by grind, by grind⟩
          exact ih (v4 + (1 : Int32)) (1 : Int32) M12 k1 pf12 pf14 (show (0 : Int32) ≤ (1 : Int32) ∧ (1 : Int32) ≤ (1 : Int32) from ⟨by decide, by decide⟩) hM12 hk
        · have pf16 : FU (v4 + (1 : Int32)) 5 n := by
            have c17 : (0 : Int32) ≤ (M6.1 33 0 (p1).toNatClampNeg) ∧ (M6.1 33 0 (p1).toNatClampNeg) ≤ (5 : Int32) := hM6.at1 33 0 ((p1).toNatClampNeg)
            exact FU.step hF (by grind)
          have pf18 : (0 : Int32) ≤ (v4 + (1 : Int32)) ∧ (v4 + (1 : Int32)) ≤ (5 : Int32) := by
            have c19 : (0 : Int32) ≤ (M6.1 33 0 (p1).toNatClampNeg) ∧ (M6.1 33 0 (p1).toNatClampNeg) ≤ (5 : Int32) := hM6.at1 33 0 ((p1).toNatClampNeg)
            exact ⟨by grind, by grind⟩
          exact ih (v4 + (1 : Int32)) (0 : Int32) M12 k1 pf16 pf18 (show (0 : Int32) ≤ (0 : Int32) ∧ (0 : Int32) ≤ (1 : Int32) from ⟨by decide, by decide⟩) hM12 hk
theorem s_X7_passes {A : Nat → Nat → Nat → Prop} {B : SS} (M : SS) (hM : IV A B M) (p0 : Int32) (ip0 : (0 : Int32) ≤ p0 ∧ p0 ≤ (40 : Int32)) (p1 : Int32) (ip1 : (0 : Int32) ≤ p1 ∧ p1 ≤ (7 : Int32)) (a1 : A 26 0 38) (a2 : A 26 0 39) (a3 : A 26 0 40) (a4 : ∀ p, A 53 0 p) (a5 : ∀ p, A 54 0 p) : ok (f_X7_passes M p0 p1) (fun r => IV A B r.1 ∧ (0 : Int32) ≤ r.2 ∧ r.2 ≤ (1 : Int32)) := by
  unfold f_X7_passes
  have pf1 : (0 : Int32) ≤ p1 ∧ p1 ≤ (7 : Int32) := by
    exact ⟨by grind, by grind⟩
  have pf2 : (0 : Int32) ≤ p0 ∧ p0 ≤ (40 : Int32) := by
    exact ⟨by grind, by grind⟩
  have pf3 : FU (0 : Int32) 5 1000 := by
    exact FU.start (by grind) (by decide)
  refine s_X7_passes_L5 p1 pf1 p0 pf2 (a1) (a2) (a3) (fun p => a4 p) (fun p => a5 p) 1000 (0 : Int32) (1 : Int32) M _ pf3 (show (0 : Int32) ≤ (0 : Int32) ∧ (0 : Int32) ≤ (5 : Int32) from ⟨by decide, by decide⟩) (show (0 : Int32) ≤ (1 : Int32) ∧ (1 : Int32) ≤ (1 : Int32) from ⟨by decide, by decide⟩) hM (fun v2 M3 wv2 hM3 => ?_)
  have wv2 : (0 : Int32) ≤ v2 ∧ v2 ≤ (1 : Int32) := wv2
  refine ok_gd ?_ (fun g4 => ?_)
  · exact okz_of (by grind) (by grind)
  have pf5 : (0 : Int32) ≤ v2 ∧ v2 ≤ (1 : Int32) := by
    exact ⟨by grind, by grind⟩
  exact ok_some ⟨hM3, pf5⟩
theorem s_X7_puts_J190 {A : Nat → Nat → Nat → Prop} {B : SS} (v25 : Int32) (iv25 : (0 : Int32) ≤ v25 ∧ v25 ≤ (39 : Int32)) (M34 : SS) (hM34 : IV A B M34) (v26 : Int32) (v36 : Int32) (iv36 : (102 : Int32) ≤ v36 ∧ v36 ≤ (115 : Int32)) (x0 : (M34.1 26 0 1) = (0 : Int32) ∧ (M34.1 26 0 2) = (0 : Int32)) (a1 : A 42 0 (v25).toNatClampNeg) {n : Nat} (rc : Int32 → Int32 → SS → (Int32 → SS → Option (SS × Int32)) → Option (SS × Int32)) (hrc : ∀ (v25 : Int32) (v26 : Int32) (M27 : SS) (k22 : (Int32 → SS → Option (SS × Int32))), (FU v25 40 n) → ((0 : Int32) ≤ v25 ∧ v25 ≤ (40 : Int32)) → (IV A B M27) → ((M27.1 26 0 1) = (0 : Int32) ∧ (M27.1 26 0 2) = (0 : Int32)) → (∀ (k_0 : Int32) (k_1 : SS), (IV A B k_1) → ((k_1.1 26 0 1) = (0 : Int32) ∧ (k_1.1 26 0 2) = (0 : Int32)) → ok (k22 k_0 k_1) (fun r => IV A B r.1 ∧ ((r.1.1 26 0 1) = (0 : Int32) ∧ (r.1.1 26 0 2) = (0 : Int32)))) → ok (rc v25 v26 M27 k22) (fun r => IV A B r.1 ∧ ((r.1.1 26 0 1) = (0 : Int32) ∧ (r.1.1 26 0 2) = (0 : Int32)))) (k22 : Int32 → SS → Option (SS × Int32)) (hk : ∀ (k_0 : Int32) (k_1 : SS), (IV A B k_1) → ((k_1.1 26 0 1) = (0 : Int32) ∧ (k_1.1 26 0 2) = (0 : Int32)) → ok (k22 k_0 k_1) (fun r => IV A B r.1 ∧ ((r.1.1 26 0 1) = (0 : Int32) ∧ (r.1.1 26 0 2) = (0 : Int32)))) (hF : FU v25 40 (n + 1)) : ok (f_X7_puts_J190 rc k22 v25 M34 v26 v36) (fun r => IV A B r.1 ∧ ((r.1.1 26 0 1) = (0 : Int32) ∧ (r.1.1 26 0 2) = (0 : Int32))) := by
  unfold f_X7_puts_J190
  refine ok_gd ?_ (fun g1 => ?_)
  · exact vp_of (by decide) (by grind) (show v25 < (40 : Int32) by grind)
  have g1 := vp_to (by decide) g1
  have g1 : (0 : Int32) ≤ v25 ∧ v25 < (40 : Int32) := g1
  refine ok_ite (fun q2 => ?_) (fun q2 => ?_)
  · refine ok_lq (fun v43 eq_3 => ?_)
    refine ok_gd ?_ (fun g4 => ?_)
    · have c5 : (0 : Int32) ≤ (M34.1 42 0 (v25).toNatClampNeg) ∧ (M34.1 42 0 (v25).toNatClampNeg) ≤ (65535 : Int32) := hM34.at1 42 0 ((v25).toNatClampNeg)
      exact vp_of (by decide) (by grind) (show v25 < (40 : Int32) by grind)
    have g4 := vp_to (by decide) g4
    have g4 : (0 : Int32) ≤ v25 ∧ v25 < (40 : Int32) := g4
    refine ok_lq (fun M45 eq_6 => ?_)
    have pf7 : (0 : Int32) ≤ (vp_nar .char v36) ∧ (vp_nar .char v36) ≤ (65535 : Int32) := by
      have c8 : (0 : Int32) ≤ (vp_nar .char v36) ∧ (vp_nar .char v36) ≤ (65535 : Int32) := nar_c _
      have c9 : (0 : Int32) ≤ (M34.1 42 0 (v25).toNatClampNeg) ∧ (M34.1 42 0 (v25).toNatClampNeg) ≤ (65535 : Int32) := hM34.at1 42 0 ((v25).toNatClampNeg)
      exact ⟨by grind, by grind⟩
    have hM45 : IV A B M45 := by rw [eq_6]; exact hM34.w1 rfl (a1) pf7
    have pf10 : FU (v25 + (1 : Int32)) 40 n := by
      have c11 : (0 : Int32) ≤ (M34.1 42 0 (v25).toNatClampNeg) ∧ (M34.1 42 0 (v25).toNatClampNeg) ≤ (65535 : Int32) := hM34.at1 42 0 ((v25).toNatClampNeg)
      exact FU.step hF (by grind)
    have pf12 : (0 : Int32) ≤ (v25 + (1 : Int32)) ∧ (v25 + (1 : Int32)) ≤ (40 : Int32) := by
      have c13 : (0 : Int32) ≤ (M34.1 42 0 (v25).toNatClampNeg) ∧ (M34.1 42 0 (v25).toNatClampNeg) ≤ (65535 : Int32) := hM34.at1 42 0 ((v25).toNatClampNeg)
      exact ⟨by grind, by grind⟩
    have pf14 : (M45.1 26 0 1) = (0 : Int32) ∧ (M45.1 26 0 2) = (0 : Int32) := by
      have c15 : (0 : Int32) ≤ (vp_nar .char v36) ∧ (vp_nar .char v36) ≤ (65535 : Int32) := nar_c _
      have c16 : (0 : Int32) ≤ (M45.1 26 0 1) ∧ (M45.1 26 0 1) ≤ (4 : Int32) := hM45.at1 26 0 1
      have c17 : (M45.1 26 0 1) = (M34.1 26 0 1) := by rw [eq_6]; exact up_k (by decide)
      have c18 : (0 : Int32) ≤ (M45.1 26 0 2) ∧ (M45.1 26 0 2) ≤ (6 : Int32) := hM45.at1 26 0 2
      have c19 : (M45.1 26 0 2) = (M34.1 26 0 2) := by rw [eq_6]; exact up_k (by decide)
      have c20 : (0 : Int32) ≤ (M34.1 26 0 1) ∧ (M34.1 26 0 1) ≤ (4 : Int32) := hM34.at1 26 0 1
      have c21 : (0 : Int32) ≤ (M34.1 26 0 2) ∧ (M34.1 26 0 2) ≤ (6 : Int32) := hM34.at1 26 0 2
      grind
    exact hrc (v25 + (1 : Int32)) v43 M45 k22 pf10 pf12 hM45 pf14 hk
  · refine ok_lq (fun v40 eq_22 => ?_)
    refine ok_gd ?_ (fun g23 => ?_)
    · have c24 : (0 : Int32) ≤ (M34.1 42 0 (v25).toNatClampNeg) ∧ (M34.1 42 0 (v25).toNatClampNeg) ≤ (65535 : Int32) := hM34.at1 42 0 ((v25).toNatClampNeg)
      exact vp_of (by decide) (by grind) (show v25 < (40 : Int32) by grind)
    have g23 := vp_to (by decide) g23
    have g23 : (0 : Int32) ≤ v25 ∧ v25 < (40 : Int32) := g23
    refine ok_lq (fun M42 eq_25 => ?_)
    have pf26 : (0 : Int32) ≤ (vp_nar .char v36) ∧ (vp_nar .char v36) ≤ (65535 : Int32) := by
      have c27 : (0 : Int32) ≤ (vp_nar .char v36) ∧ (vp_nar .char v36) ≤ (65535 : Int32) := nar_c _
      have c28 : (0 : Int32) ≤ (M34.1 42 0 (v25).toNatClampNeg) ∧ (M34.1 42 0 (v25).toNatClampNeg) ≤ (65535 : Int32) := hM34.at1 42 0 ((v25).toNatClampNeg)
      exact ⟨by grind, by grind⟩
    have hM42 : IV A B M42 := by rw [eq_25]; exact hM34.w1 rfl (a1) pf26
    have pf29 : FU (v25 + (1 : Int32)) 40 n := by
      have c30 : (0 : Int32) ≤ (M34.1 42 0 (v25).toNatClampNeg) ∧ (M34.1 42 0 (v25).toNatClampNeg) ≤ (65535 : Int32) := hM34.at1 42 0 ((v25).toNatClampNeg)
      exact FU.step hF (by grind)
    have pf31 : (0 : Int32) ≤ (v25 + (1 : Int32)) ∧ (v25 + (1 : Int32)) ≤ (40 : Int32) := by
      have c32 : (0 : Int32) ≤ (M34.1 42 0 (v25).toNatClampNeg) ∧ (M34.1 42 0 (v25).toNatClampNeg) ≤ (65535 : Int32) := hM34.at1 42 0 ((v25).toNatClampNeg)
      exact ⟨by grind, by grind⟩
    have pf33 : (M42.1 26 0 1) = (0 : Int32) ∧ (M42.1 26 0 2) = (0 : Int32) := by
      have c34 : (0 : Int32) ≤ (vp_nar .char v36) ∧ (vp_nar .char v36) ≤ (65535 : Int32) := nar_c _
      have c35 : (0 : Int32) ≤ (M42.1 26 0 1) ∧ (M42.1 26 0 1) ≤ (4 : Int32) := hM42.at1 26 0 1
      have c36 : (M42.1 26 0 1) = (M34.1 26 0 1) := by rw [eq_25]; exact up_k (by decide)
      have c37 : (0 : Int32) ≤ (M42.1 26 0 2) ∧ (M42.1 26 0 2) ≤ (6 : Int32) := hM42.at1 26 0 2
      have c38 : (M42.1 26 0 2) = (M34.1 26 0 2) := by rw [eq_25]; exact up_k (by decide)
      have c39 : (0 : Int32) ≤ (M34.1 26 0 1) ∧ (M34.1 26 0 1) ≤ (4 : Int32) := hM34.at1 26 0 1
      have c40 : (0 : Int32) ≤ (M34.1 26 0 2) ∧ (M34.1 26 0 2) ≤ (6 : Int32) := hM34.at1 26 0 2
      grind
    exact hrc (v25 + (1 : Int32)) v40 M42 k22 pf29 pf31 hM42 pf33 hk
theorem s_X7_puts_L140 {A : Nat → Nat → Nat → Prop} {B : SS} (p0 : Int32) (ip0 : (0 : Int32) ≤ p0 ∧ p0 ≤ (7 : Int32)) (a1 : A 26 0 38) (a2 : A 26 0 39) (a3 : A 26 0 40) (a4 : ∀ p, A 42 0 p) (a5 : ∀ p, A 53 0 p) (a6 : ∀ p, A 54 0 p) : ∀ (n : Nat), ∀ (v25 : Int32) (v26 : Int32) (M27 : SS) (k22 : (Int32 → SS → Option (SS × Int32))), (FU v25 40 n) → ((0 : Int32) ≤ v25 ∧ v25 ≤ (40 : Int32)) → (IV A B M27) → ((M27.1 26 0 1) = (0 : Int32) ∧ (M27.1 26 0 2) = (0 : Int32)) → (∀ (k_0 : Int32) (k_1 : SS), (IV A B k_1) → ((k_1.1 26 0 1) = (0 : Int32) ∧ (k_1.1 26 0 2) = (0 : Int32)) → ok (k22 k_0 k_1) (fun r => IV A B r.1 ∧ ((r.1.1 26 0 1) = (0 : Int32) ∧ (r.1.1 26 0 2) = (0 : Int32)))) → ok (f_X7_puts_L140 p0 n v25 v26 M27 k22) (fun r => IV A B r.1 ∧ ((r.1.1 26 0 1) = (0 : Int32) ∧ (r.1.1 26 0 2) = (0 : Int32))) := by
  intro n
  induction n with
  | zero =>
    intro v25 v26 M27 k22 hF iv25 hM27 x0 hk
    exact (FU.stop hF (show v25 ≤ (40 : Int32) by grind)).elim
  | succ n ih =>
    intro v25 v26 M27 k22 hF iv25 hM27 x0 hk
    rw [f_X7_puts_L140]
    refine ok_ite (fun q1 => ?_) (fun q1 => ?_)
    · have pf2 : (M27.1 26 0 1) = (0 : Int32) ∧ (M27.1 26 0 2) = (0 : Int32) := by
        have c3 : (0 : Int32) ≤ (M27.1 26 0 1) ∧ (M27.1 26 0 1) ≤ (4 : Int32) := hM27.at1 26 0 1
        have c4 : (0 : Int32) ≤ (M27.1 26 0 2) ∧ (M27.1 26 0 2) ≤ (6 : Int32) := hM27.at1 26 0 2
        grind
      exact hk v26 M27 hM27 pf2
    · refine ok_gd ?_ (fun g5 => ?_)
      · have c6 : (0 : Int32) ≤ (M27.1 26 0 5) ∧ (M27.1 26 0 5) ≤ (40 : Int32) := hM27.at1 26 0 5
        exact vp_of (by decide) (by grind) (show v25 < (40 : Int32) by grind)
      have g5 := vp_to (by decide) g5
      have g5 : (0 : Int32) ≤ v25 ∧ v25 < (40 : Int32) := g5
      refine ok_ite (fun q7 => ?_) (fun q7 => ?_)
      · have pf8 : FU (v25 + (1 : Int32)) 40 n := by
          have c9 : (0 : Int32) ≤ (M27.1 26 0 5) ∧ (M27.1 26 0 5) ≤ (40 : Int32) := hM27.at1 26 0 5
          have c10 : (0 : Int32) ≤ (M27.1 43 0 (v25).toNatClampNeg) ∧ (M27.1 43 0 (v25).toNatClampNeg) ≤ (1 : Int32) := hM27.at1 43 0 ((v25).toNatClampNeg)
          exact FU.step hF (by grind)
        have pf11 : (0 : Int32) ≤ (v25 + (1 : Int32)) ∧ (v25 + (1 : Int32)) ≤ (40 : Int32) := by
          have c12 : (0 : Int32) ≤ (M27.1 26 0 5) ∧ (M27.1 26 0 5) ≤ (40 : Int32) := hM27.at1 26 0 5
          have c13 : (0 : Int32) ≤ (M27.1 43 0 (v25).toNatClampNeg) ∧ (M27.1 43 0 (v25).toNatClampNeg) ≤ (1 : Int32) := hM27.at1 43 0 ((v25).toNatClampNeg)
          exact ⟨by grind, by grind⟩
        have pf14 : (M27.1 26 0 1) = (0 : Int32) ∧ (M27.1 26 0 2) = (0 : Int32) := by
          have c15 : (0 : Int32) ≤ (M27.1 26 0 1) ∧ (M27.1 26 0 1) ≤ (4 : Int32) := hM27.at1 26 0 1
          have c16 : (0 : Int32) ≤ (M27.1 26 0 2) ∧ (M27.1 26 0 2) ≤ (6 : Int32) := hM27.at1 26 0 2
          grind
        exact ih (v25 + (1 : Int32)) v26 M27 k22 pf8 pf11 hM27 pf14 hk
      · refine ok_gd ?_ (fun g17 => ?_)
        · have c18 : (0 : Int32) ≤ (M27.1 26 0 5) ∧ (M27.1 26 0 5) ≤ (40 : Int32) := hM27.at1 26 0 5
          have c19 : (0 : Int32) ≤ (M27.1 43 0 (v25).toNatClampNeg) ∧ (M27.1 43 0 (v25).toNatClampNeg) ≤ (1 : Int32) := hM27.at1 43 0 ((v25).toNatClampNeg)
          exact vp_of (by decide) (by grind) (show v25 < (40 : Int32) by grind)
        have g17 := vp_to (by decide) g17
        have g17 : (0 : Int32) ≤ v25 ∧ v25 < (40 : Int32) := g17
        refine ok_ite (fun q20 => ?_) (fun q20 => ?_)
        · have pf21 : (0 : Int32) ≤ v25 ∧ v25 ≤ (40 : Int32) := by
            have c22 : (0 : Int32) ≤ (M27.1 26 0 5) ∧ (M27.1 26 0 5) ≤ (40 : Int32) := hM27.at1 26 0 5
            have c23 : (0 : Int32) ≤ (M27.1 43 0 (v25).toNatClampNeg) ∧ (M27.1 43 0 (v25).toNatClampNeg) ≤ (1 : Int32) := hM27.at1 43 0 ((v25).toNatClampNeg)
            have c24 : (0 : Int32) ≤ (M27.1 40 0 (v25).toNatClampNeg) ∧ (M27.1 40 0 (v25).toNatClampNeg) ≤ (7 : Int32) := hM27.at1 40 0 ((v25).toNatClampNeg)
            exact ⟨by grind, by grind⟩
          have pf25 : (0 : Int32) ≤ p0 ∧ p0 ≤ (7 : Int32) := by
            have c26 : (0 : Int32) ≤ (M27.1 40 0 (v25).toNatClampNeg) ∧ (M27.1 40 0 (v25).toNatClampNeg) ≤ (7 : Int32) := hM27.at1 40 0 ((v25).toNatClampNeg)
            have c27 : (0 : Int32) ≤ (M27.1 26 0 5) ∧ (M27.1 26 0 5) ≤ (40 : Int32) := hM27.at1 26 0 5
            have c28 : (0 : Int32) ≤ (M27.1 43 0 (v25).toNatClampNeg) ∧ (M27.1 43 0 (v25).toNatClampNeg) ≤ (1 : Int32) := hM27.at1 43 0 ((v25).toNatClampNeg)
            exact ⟨by grind, by grind⟩
          have f29 := ok_and (s_X7_passes M27 hM27 v25 pf21 p0 pf25 (a1) (a2) (a3) (fun p => a5 p) (fun p => a6 p)) (s_X7_passes (A := (fun k i p => (k = 26 ∧ p = 38) ∨ (k = 26 ∧ p = 39) ∨ (k = 26 ∧ p = 40) ∨ (k = 53) ∨ (k = 54))) (B := M27) M27 hM27.self v25 pf21 p0 pf25 (by simp) (by simp) (by simp) (by simp) (by simp))
          refine ok_b1 f29 (fun M34 v33 w30 => ?_)
          have w30a := w30.1
          have w30f : IV (fun k i p => (k = 26 ∧ p = 38) ∨ (k = 26 ∧ p = 39) ∨ (k = 26 ∧ p = 40) ∨ (k = 53) ∨ (k = 54)) M27 M34 := w30.2.1
          have hM34 : IV A B M34 := w30a.1
          have w31 : (0 : Int32) ≤ v33 ∧ v33 ≤ (1 : Int32) := w30a.2
          refine ok_ite (fun q32 => ?_) (fun q32 => ?_)
          · have pf33 : (0 : Int32) ≤ v25 ∧ v25 ≤ (39 : Int32) := by
              have c34 : (0 : Int32) ≤ (M27.1 26 0 5) ∧ (M27.1 26 0 5) ≤ (40 : Int32) := hM27.at1 26 0 5
              have c35 : (0 : Int32) ≤ (M27.1 43 0 (v25).toNatClampNeg) ∧ (M27.1 43 0 (v25).toNatClampNeg) ≤ (1 : Int32) := hM27.at1 43 0 ((v25).toNatClampNeg)
              have c36 : (0 : Int32) ≤ (M27.1 40 0 (v25).toNatClampNeg) ∧ (M27.1 40 0 (v25).toNatClampNeg) ≤ (7 : Int32) := hM27.at1 40 0 ((v25).toNatClampNeg)
              exact ⟨by grind, by grind⟩
            have pf37 : (M34.1 26 0 1) = (0 : Int32) ∧ (M34.1 26 0 2) = (0 : Int32) := by
              have c38 : (0 : Int32) ≤ (M34.1 26 0 1) ∧ (M34.1 26 0 1) ≤ (4 : Int32) := hM34.at1 26 0 1
              have c39 : (M34.1 26 0 1) = (M27.1 26 0 1) := w30f.same (by simp)
              have c40 : (0 : Int32) ≤ (M34.1 26 0 2) ∧ (M34.1 26 0 2) ≤ (6 : Int32) := hM34.at1 26 0 2
              have c41 : (M34.1 26 0 2) = (M27.1 26 0 2) := w30f.same (by simp)
              have c42 : (0 : Int32) ≤ (M27.1 26 0 1) ∧ (M27.1 26 0 1) ≤ (4 : Int32) := hM27.at1 26 0 1
              have c43 : (0 : Int32) ≤ (M27.1 26 0 2) ∧ (M27.1 26 0 2) ≤ (6 : Int32) := hM27.at1 26 0 2
              grind
            exact s_X7_puts_J190 v25 pf33 M34 hM34 v26 (102 : Int32) (show (102 : Int32) ≤ (102 : Int32) ∧ (102 : Int32) ≤ (115 : Int32) from ⟨by decide, by decide⟩) pf37 (a4 ((v25).toNatClampNeg)) (f_X7_puts_L140 p0 n) ih k22 hk hF
          · have pf44 : (0 : Int32) ≤ v25 ∧ v25 ≤ (39 : Int32) := by
              have c45 : (0 : Int32) ≤ (M27.1 26 0 5) ∧ (M27.1 26 0 5) ≤ (40 : Int32) := hM27.at1 26 0 5
              have c46 : (0 : Int32) ≤ (M27.1 43 0 (v25).toNatClampNeg) ∧ (M27.1 43 0 (v25).toNatClampNeg) ≤ (1 : Int32) := hM27.at1 43 0 ((v25).toNatClampNeg)
              have c47 : (0 : Int32) ≤ (M27.1 40 0 (v25).toNatClampNeg) ∧ (M27.1 40 0 (v25).toNatClampNeg) ≤ (7 : Int32) := hM27.at1 40 0 ((v25).toNatClampNeg)
              exact ⟨by grind, by grind⟩
            have pf48 : (M34.1 26 0 1) = (0 : Int32) ∧ (M34.1 26 0 2) = (0 : Int32) := by
              have c49 : (0 : Int32) ≤ (M34.1 26 0 1) ∧ (M34.1 26 0 1) ≤ (4 : Int32) := hM34.at1 26 0 1
              have c50 : (M34.1 26 0 1) = (M27.1 26 0 1) := w30f.same (by simp)
              have c51 : (0 : Int32) ≤ (M34.1 26 0 2) ∧ (M34.1 26 0 2) ≤ (6 : Int32) := hM34.at1 26 0 2
              have c52 : (M34.1 26 0 2) = (M27.1 26 0 2) := w30f.same (by simp)
              have c53 : (0 : Int32) ≤ (M27.1 26 0 1) ∧ (M27.1 26 0 1) ≤ (4 : Int32) := hM27.at1 26 0 1
              have c54 : (0 : Int32) ≤ (M27.1 26 0 2) ∧ (M27.1 26 0 2) ≤ (6 : Int32) := hM27.at1 26 0 2
              grind
            exact s_X7_puts_J190 v25 pf44 M34 hM34 v26 (115 : Int32) (show (102 : Int32) ≤ (115 : Int32) ∧ (115 : Int32) ≤ (115 : Int32) from ⟨by decide, by decide⟩) pf48 (a4 ((v25).toNatClampNeg)) (f_X7_puts_L140 p0 n) ih k22 hk hF
        · have pf55 : FU (v25 + (1 : Int32)) 40 n := by
            have c56 : (0 : Int32) ≤ (M27.1 26 0 5) ∧ (M27.1 26 0 5) ≤ (40 : Int32) := hM27.at1 26 0 5
            have c57 : (0 : Int32) ≤ (M27.1 43 0 (v25).toNatClampNeg) ∧ (M27.1 43 0 (v25).toNatClampNeg) ≤ (1 : Int32) := hM27.at1 43 0 ((v25).toNatClampNeg)
            have c58 : (0 : Int32) ≤ (M27.1 40 0 (v25).toNatClampNeg) ∧ (M27.1 40 0 (v25).toNatClampNeg) ≤ (7 : Int32) := hM27.at1 40 0 ((v25).toNatClampNeg)
            exact FU.step hF (by grind)
          have pf59 : (0 : Int32) ≤ (v25 + (1 : Int32)) ∧ (v25 + (1 : Int32)) ≤ (40 : Int32) := by
            have c60 : (0 : Int32) ≤ (M27.1 26 0 5) ∧ (M27.1 26 0 5) ≤ (40 : Int32) := hM27.at1 26 0 5
            have c61 : (0 : Int32) ≤ (M27.1 43 0 (v25).toNatClampNeg) ∧ (M27.1 43 0 (v25).toNatClampNeg) ≤ (1 : Int32) := hM27.at1 43 0 ((v25).toNatClampNeg)
            have c62 : (0 : Int32) ≤ (M27.1 40 0 (v25).toNatClampNeg) ∧ (M27.1 40 0 (v25).toNatClampNeg) ≤ (7 : Int32) := hM27.at1 40 0 ((v25).toNatClampNeg)
            exact ⟨by grind, by grind⟩
          have pf63 : (M27.1 26 0 1) = (0 : Int32) ∧ (M27.1 26 0 2) = (0 : Int32) := by
            have c64 : (0 : Int32) ≤ (M27.1 26 0 1) ∧ (M27.1 26 0 1) ≤ (4 : Int32) := hM27.at1 26 0 1
            have c65 : (0 : Int32) ≤ (M27.1 26 0 2) ∧ (M27.1 26 0 2) ≤ (6 : Int32) := hM27.at1 26 0 2
            grind
          exact ih (v25 + (1 : Int32)) v26 M27 k22 pf55 pf59 hM27 pf63 hk
theorem s_X7_puts_L65 {A : Nat → Nat → Nat → Prop} {B : SS} (v1 : Int32) (iv1 : (0 : Int32) ≤ v1 ∧ v1 ≤ (39 : Int32)) (a1 : ∀ p, A 37 0 p) : ∀ (n : Nat), ∀ (v12 : Int32) (M13 : SS) (k10 : (SS → Option (SS × Int32))), (FU v12 6 n) → ((0 : Int32) ≤ v12 ∧ v12 ≤ (6 : Int32)) → (IV A B M13) → (∀ (k_0 : SS), (IV A B k_0) → ok (k10 k_0) (fun r => IV A B r.1 ∧ ((r.1.1 26 0 1) = (0 : Int32) ∧ (r.1.1 26 0 2) = (0 : Int32)))) → ok (f_X7_puts_L65 v1 n v12 M13 k10) (fun r => IV A B r.1 ∧ ((r.1.1 26 0 1) = (0 : Int32) ∧ (r.1.1 26 0 2) = (0 : Int32))) := by
  intro n
  induction n with
  | zero =>
    intro v12 M13 k10 hF iv12 hM13 hk
    exact (FU.stop hF (show v12 ≤ (6 : Int32) by grind)).elim
  | succ n ih =>
    intro v12 M13 k10 hF iv12 hM13 hk
    rw [f_X7_puts_L65]
    refine ok_ite (fun q1 => ?_) (fun q1 => ?_)
    · exact hk M13 hM13
    · refine ok_gd ?_ (fun g2 => ?_)
      · have c3 : (0 : Int32) ≤ (M13.1 26 0 2) ∧ (M13.1 26 0 2) ≤ (6 : Int32) := hM13.at1 26 0 2
        exact vp_of (by decide) (by grind) (show v12 < (6 : Int32) by grind)
      have g2 := vp_to (by decide) g2
      have g2 : (0 : Int32) ≤ v12 ∧ v12 < (6 : Int32) := g2
      refine ok_gd ?_ (fun g4 => ?_)
      · have c5 : (0 : Int32) ≤ (M13.1 26 0 2) ∧ (M13.1 26 0 2) ≤ (6 : Int32) := hM13.at1 26 0 2
        exact vp_of (by decide) (by grind) (show (((6 : Int32) * v1) + v12) < (240 : Int32) by grind)
      have g4 := vp_to (by decide) g4
      have g4 : (0 : Int32) ≤ (((6 : Int32) * v1) + v12) ∧ (((6 : Int32) * v1) + v12) < (240 : Int32) := g4
      refine ok_lq (fun M51 eq_6 => ?_)
      have hM51 : IV A B M51 := by rw [eq_6]; exact hM13.w1f rfl (a1 (((((6 : Int32) * v1) + v12)).toNatClampNeg)) rfl
      have pf7 : FU (v12 + (1 : Int32)) 6 n := by
        have c8 : (0 : Int32) ≤ (M13.1 26 0 2) ∧ (M13.1 26 0 2) ≤ (6 : Int32) := hM13.at1 26 0 2
        exact FU.step hF (by grind)
      have pf9 : (0 : Int32) ≤ (v12 + (1 : Int32)) ∧ (v12 + (1 : Int32)) ≤ (6 : Int32) := by
        have c10 : (0 : Int32) ≤ (M13.1 26 0 2) ∧ (M13.1 26 0 2) ≤ (6 : Int32) := hM13.at1 26 0 2
        exact ⟨by grind, by grind⟩
      exact ih (v12 + (1 : Int32)) M51 k10 pf7 pf9 hM51 hk
theorem s_X7_puts_L29 {A : Nat → Nat → Nat → Prop} {B : SS} (v1 : Int32) (iv1 : (0 : Int32) ≤ v1 ∧ v1 ≤ (39 : Int32)) (a1 : ∀ p, A 36 0 p) : ∀ (n : Nat), ∀ (v8 : Int32) (M9 : SS) (k6 : (SS → Option (SS × Int32))), (FU v8 4 n) → ((0 : Int32) ≤ v8 ∧ v8 ≤ (4 : Int32)) → (IV A B M9) → (∀ (k_0 : SS), (IV A B k_0) → ok (k6 k_0) (fun r => IV A B r.1 ∧ ((r.1.1 26 0 1) = (0 : Int32) ∧ (r.1.1 26 0 2) = (0 : Int32)))) → ok (f_X7_puts_L29 v1 n v8 M9 k6) (fun r => IV A B r.1 ∧ ((r.1.1 26 0 1) = (0 : Int32) ∧ (r.1.1 26 0 2) = (0 : Int32))) := by
  intro n
  induction n with
  | zero =>
    intro v8 M9 k6 hF iv8 hM9 hk
    exact (FU.stop hF (show v8 ≤ (4 : Int32) by grind)).elim
  | succ n ih =>
    intro v8 M9 k6 hF iv8 hM9 hk
    rw [f_X7_puts_L29]
    refine ok_ite (fun q1 => ?_) (fun q1 => ?_)
    · exact hk M9 hM9
    · refine ok_gd ?_ (fun g2 => ?_)
      · have c3 : (0 : Int32) ≤ (M9.1 26 0 1) ∧ (M9.1 26 0 1) ≤ (4 : Int32) := hM9.at1 26 0 1
        exact vp_of (by decide) (by grind) (show v8 < (4 : Int32) by grind)
      have g2 := vp_to (by decide) g2
      have g2 : (0 : Int32) ≤ v8 ∧ v8 < (4 : Int32) := g2
      refine ok_gd ?_ (fun g4 => ?_)
      · have c5 : (0 : Int32) ≤ (M9.1 26 0 1) ∧ (M9.1 26 0 1) ≤ (4 : Int32) := hM9.at1 26 0 1
        exact vp_of (by decide) (by grind) (show (((4 : Int32) * v1) + v8) < (160 : Int32) by grind)
      have g4 := vp_to (by decide) g4
      have g4 : (0 : Int32) ≤ (((4 : Int32) * v1) + v8) ∧ (((4 : Int32) * v1) + v8) < (160 : Int32) := g4
      refine ok_lq (fun M55 eq_6 => ?_)
      have hM55 : IV A B M55 := by rw [eq_6]; exact hM9.w1f rfl (a1 (((((4 : Int32) * v1) + v8)).toNatClampNeg)) rfl
      have pf7 : FU (v8 + (1 : Int32)) 4 n := by
        have c8 : (0 : Int32) ≤ (M9.1 26 0 1) ∧ (M9.1 26 0 1) ≤ (4 : Int32) := hM9.at1 26 0 1
        exact FU.step hF (by grind)
      have pf9 : (0 : Int32) ≤ (v8 + (1 : Int32)) ∧ (v8 + (1 : Int32)) ≤ (4 : Int32) := by
        have c10 : (0 : Int32) ≤ (M9.1 26 0 1) ∧ (M9.1 26 0 1) ≤ (4 : Int32) := hM9.at1 26 0 1
        exact ⟨by grind, by grind⟩
      exact ih (v8 + (1 : Int32)) M55 k6 pf7 pf9 hM55 hk
theorem s_X7_puts {A : Nat → Nat → Nat → Prop} {B : SS} (M : SS) (hM : IV A B M) (p0 : Int32) (ip0 : (0 : Int32) ≤ p0 ∧ p0 ≤ (7 : Int32)) (p1 : Int32) (ip1 : (0 : Int32) ≤ p1 ∧ p1 ≤ (4 : Int32)) (a1 : A 26 0 1) (a2 : A 26 0 2) (a3 : A 26 0 38) (a4 : A 26 0 39) (a5 : A 26 0 40) (a6 : A 26 0 7) (a7 : ∀ p, A 34 0 p) (a8 : ∀ p, A 35 0 p) (a9 : ∀ p, A 36 0 p) (a10 : ∀ p, A 37 0 p) (a11 : ∀ p, A 38 0 p) (a12 : ∀ p, A 42 0 p) (a13 : ∀ p, A 53 0 p) (a14 : ∀ p, A 54 0 p) : ok (f_X7_puts M p0 p1) (fun r => IV A B r.1 ∧ ((r.1.1 26 0 1) = (0 : Int32) ∧ (r.1.1 26 0 2) = (0 : Int32))) := by
  unfold f_X7_puts
  refine ok_lq (fun v1 eq_1 => ?_)
  refine ok_gd ?_ (fun g2 => ?_)
  · exact vp_of (by decide) (by grind) (show v1 < (40 : Int32) by grind)
  have g2 := vp_to (by decide) g2
  have g2 : (0 : Int32) ≤ v1 ∧ v1 < (40 : Int32) := g2
  refine ok_lq (fun M3 eq_3 => ?_)
  have pf4 : (0 : Int32) ≤ (M.1 26 0 1) ∧ (M.1 26 0 1) ≤ (4 : Int32) := by
    have c5 : (0 : Int32) ≤ (M.1 26 0 1) ∧ (M.1 26 0 1) ≤ (4 : Int32) := hM.at1 26 0 1
    exact ⟨by grind, by grind⟩
  have hM3 : IV A B M3 := by rw [eq_3]; exact hM.w1 rfl (a7 ((v1).toNatClampNeg)) pf4
  refine ok_gd ?_ (fun g6 => ?_)
  · exact vp_of (by decide) (by grind) (show v1 < (40 : Int32) by grind)
  have g6 := vp_to (by decide) g6
  have g6 : (0 : Int32) ≤ v1 ∧ v1 < (40 : Int32) := g6
  refine ok_lq (fun M5 eq_7 => ?_)
  have pf8 : (0 : Int32) ≤ (M3.1 26 0 2) ∧ (M3.1 26 0 2) ≤ (6 : Int32) := by
    have c9 : (0 : Int32) ≤ (M3.1 26 0 2) ∧ (M3.1 26 0 2) ≤ (6 : Int32) := hM3.at1 26 0 2
    have c10 : (M3.1 26 0 2) = (M.1 26 0 2) := by rw [eq_3]; exact up_k (by decide)
    have c11 : (0 : Int32) ≤ (M.1 26 0 2) ∧ (M.1 26 0 2) ≤ (6 : Int32) := hM.at1 26 0 2
    exact ⟨by grind, by grind⟩
  have hM5 : IV A B M5 := by rw [eq_7]; exact hM3.w1 rfl (a8 ((v1).toNatClampNeg)) pf8
  have pf12 : (0 : Int32) ≤ v1 ∧ v1 ≤ (39 : Int32) := by
    exact ⟨by grind, by grind⟩
  have pf13 : FU (0 : Int32) 4 1000 := by
    exact FU.start (by grind) (by decide)
  refine s_X7_puts_L29 v1 pf12 (fun p => a9 p) 1000 (0 : Int32) M5 _ pf13 (show (0 : Int32) ≤ (0 : Int32) ∧ (0 : Int32) ≤ (4 : Int32) from ⟨by decide, by decide⟩) hM5 (fun M7 hM7 => ?_)
  have pf14 : (0 : Int32) ≤ v1 ∧ v1 ≤ (39 : Int32) := by
    exact ⟨by grind, by grind⟩
  have pf15 : FU (0 : Int32) 6 1000 := by
    exact FU.start (by grind) (by decide)
  refine s_X7_puts_L65 v1 pf14 (fun p => a10 p) 1000 (0 : Int32) M7 _ pf15 (show (0 : Int32) ≤ (0 : Int32) ∧ (0 : Int32) ≤ (6 : Int32) from ⟨by decide, by decide⟩) hM7 (fun M11 hM11 => ?_)
  have f16 := ok_and (s_X7_clears M11 hM11 (a1) (a2)) (s_X7_clears (A := (fun k i p => (k = 26 ∧ p = 1) ∨ (k = 26 ∧ p = 2))) (B := M11) M11 hM11.self (by simp) (by simp))
  refine ok_b1 f16 (fun M15 v14 w17 => ?_)
  have w17a := w17.1
  have w17f : IV (fun k i p => (k = 26 ∧ p = 1) ∨ (k = 26 ∧ p = 2)) M11 M15 := w17.2.1
  have hM15 : IV A B M15 := w17a.1
  have w18 : (0 : Int32) ≤ v14 ∧ v14 ≤ (10 : Int32) ∧ ((M15.1 26 0 1) = (0 : Int32) ∧ (M15.1 26 0 2) = (0 : Int32)) := w17a.2
  refine ok_ite (fun q19 => ?_) (fun q19 => ?_)
  · unfold f_X7_puts_J120
    refine ok_lq (fun M19 eq_20 => ?_)
    have hM19 : IV A B M19 := by rw [eq_20]; exact hM15.w1f rfl (a6) rfl
    refine ok_gd ?_ (fun g21 => ?_)
    · exact vp_of (by decide) (by grind) (show v1 < (40 : Int32) by grind)
    have g21 := vp_to (by decide) g21
    have g21 : (0 : Int32) ≤ v1 ∧ v1 < (40 : Int32) := g21
    refine ok_lq (fun M21 eq_22 => ?_)
    have hM21 : IV A B M21 := by rw [eq_22]; exact hM19.w1f rfl (a11 ((v1).toNatClampNeg)) rfl
    have pf23 : (0 : Int32) ≤ p0 ∧ p0 ≤ (7 : Int32) := by
      exact ⟨by grind, by grind⟩
    have pf24 : FU (0 : Int32) 40 1000 := by
      exact FU.start (by grind) (by decide)
    have pf25 : (M21.1 26 0 1) = (0 : Int32) ∧ (M21.1 26 0 2) = (0 : Int32) := by
      have c26 : (0 : Int32) ≤ (M21.1 26 0 1) ∧ (M21.1 26 0 1) ≤ (4 : Int32) := hM21.at1 26 0 1
      have c27 : (M21.1 26 0 1) = (M19.1 26 0 1) := by rw [eq_22]; exact up_k (by decide)
      have c28 : (0 : Int32) ≤ (M21.1 26 0 2) ∧ (M21.1 26 0 2) ≤ (6 : Int32) := hM21.at1 26 0 2
      have c29 : (M21.1 26 0 2) = (M19.1 26 0 2) := by rw [eq_22]; exact up_k (by decide)
      have c30 : (0 : Int32) ≤ (M19.1 26 0 1) ∧ (M19.1 26 0 1) ≤ (4 : Int32) := hM19.at1 26 0 1
      have c31 : (M19.1 26 0 1) = (M15.1 26 0 1) := by rw [eq_20]; exact up_p (by decide)
      have c32 : (0 : Int32) ≤ (M19.1 26 0 2) ∧ (M19.1 26 0 2) ≤ (6 : Int32) := hM19.at1 26 0 2
      have c33 : (M19.1 26 0 2) = (M15.1 26 0 2) := by rw [eq_20]; exact up_p (by decide)
      have c34 : (0 : Int32) ≤ (M15.1 26 0 1) ∧ (M15.1 26 0 1) ≤ (4 : Int32) := hM15.at1 26 0 1
      have c35 : (0 : Int32) ≤ (M15.1 26 0 2) ∧ (M15.1 26 0 2) ≤ (6 : Int32) := hM15.at1 26 0 2
      grind
    refine s_X7_puts_L140 p0 pf23 (a3) (a4) (a5) (fun p => a12 p) (fun p => a13 p) (fun p => a14 p) 1000 (0 : Int32) (0 : Int32) M21 _ pf24 (show (0 : Int32) ≤ (0 : Int32) ∧ (0 : Int32) ≤ (40 : Int32) from ⟨by decide, by decide⟩) hM21 pf25 (fun v23 M24 hM24 ek => ?_)
    have eq_36 : (M24.1 26 0 1) = (0 : Int32) ∧ (M24.1 26 0 2) = (0 : Int32) := ek
    have pf37 : ((M24.1 26 0 1) = (0 : Int32) ∧ (M24.1 26 0 2) = (0 : Int32)) := by
      have c38 : (0 : Int32) ≤ (M24.1 26 0 1) ∧ (M24.1 26 0 1) ≤ (4 : Int32) := hM24.at1 26 0 1
      have c39 : (0 : Int32) ≤ (M24.1 26 0 2) ∧ (M24.1 26 0 2) ≤ (6 : Int32) := hM24.at1 26 0 2
      grind
    exact ok_some ⟨hM24, pf37⟩
  · unfold f_X7_puts_J120
    refine ok_lq (fun M19 eq_40 => ?_)
    have hM19 : IV A B M19 := by rw [eq_40]; exact hM15.w1f rfl (a6) rfl
    refine ok_gd ?_ (fun g41 => ?_)
    · exact vp_of (by decide) (by grind) (show v1 < (40 : Int32) by grind)
    have g41 := vp_to (by decide) g41
    have g41 : (0 : Int32) ≤ v1 ∧ v1 < (40 : Int32) := g41
    refine ok_lq (fun M21 eq_42 => ?_)
    have hM21 : IV A B M21 := by rw [eq_42]; exact hM19.w1f rfl (a11 ((v1).toNatClampNeg)) rfl
    have pf43 : (0 : Int32) ≤ p0 ∧ p0 ≤ (7 : Int32) := by
      exact ⟨by grind, by grind⟩
    have pf44 : FU (0 : Int32) 40 1000 := by
      exact FU.start (by grind) (by decide)
    have pf45 : (M21.1 26 0 1) = (0 : Int32) ∧ (M21.1 26 0 2) = (0 : Int32) := by
      have c46 : (0 : Int32) ≤ (M21.1 26 0 1) ∧ (M21.1 26 0 1) ≤ (4 : Int32) := hM21.at1 26 0 1
      have c47 : (M21.1 26 0 1) = (M19.1 26 0 1) := by rw [eq_42]; exact up_k (by decide)
      have c48 : (0 : Int32) ≤ (M21.1 26 0 2) ∧ (M21.1 26 0 2) ≤ (6 : Int32) := hM21.at1 26 0 2
      have c49 : (M21.1 26 0 2) = (M19.1 26 0 2) := by rw [eq_42]; exact up_k (by decide)
      have c50 : (0 : Int32) ≤ (M19.1 26 0 1) ∧ (M19.1 26 0 1) ≤ (4 : Int32) := hM19.at1 26 0 1
      have c51 : (M19.1 26 0 1) = (M15.1 26 0 1) := by rw [eq_40]; exact up_p (by decide)
      have c52 : (0 : Int32) ≤ (M19.1 26 0 2) ∧ (M19.1 26 0 2) ≤ (6 : Int32) := hM19.at1 26 0 2
      have c53 : (M19.1 26 0 2) = (M15.1 26 0 2) := by rw [eq_40]; exact up_p (by decide)
      have c54 : (0 : Int32) ≤ (M15.1 26 0 1) ∧ (M15.1 26 0 1) ≤ (4 : Int32) := hM15.at1 26 0 1
      have c55 : (0 : Int32) ≤ (M15.1 26 0 2) ∧ (M15.1 26 0 2) ≤ (6 : Int32) := hM15.at1 26 0 2
      grind
    refine s_X7_puts_L140 p0 pf43 (a3) (a4) (a5) (fun p => a12 p) (fun p => a13 p) (fun p => a14 p) 1000 (0 : Int32) (0 : Int32) M21 _ pf44 (show (0 : Int32) ≤ (0 : Int32) ∧ (0 : Int32) ≤ (40 : Int32) from ⟨by decide, by decide⟩) hM21 pf45 (fun v23 M24 hM24 ek => ?_)
    have eq_56 : (M24.1 26 0 1) = (0 : Int32) ∧ (M24.1 26 0 2) = (0 : Int32) := ek
    have pf57 : ((M24.1 26 0 1) = (0 : Int32) ∧ (M24.1 26 0 2) = (0 : Int32)) := by
      have c58 : (0 : Int32) ≤ (M24.1 26 0 1) ∧ (M24.1 26 0 1) ≤ (4 : Int32) := hM24.at1 26 0 1
      have c59 : (0 : Int32) ≤ (M24.1 26 0 2) ∧ (M24.1 26 0 2) ≤ (6 : Int32) := hM24.at1 26 0 2
      grind
    exact ok_some ⟨hM24, pf57⟩
theorem s_X7_test {A : Nat → Nat → Nat → Prop} {B : SS} (M : SS) (hM : IV A B M) (p0 : Int32) (a1 : A 26 0 1) (a2 : A 26 0 2) (a3 : A 26 0 38) (a4 : A 26 0 39) (a5 : A 26 0 40) (a6 : A 26 0 7) (a7 : A 26 0 9) (a8 : A 33 0 (p0).toNatClampNeg) (a9 : ∀ p, A 34 0 p) (a10 : ∀ p, A 35 0 p) (a11 : ∀ p, A 36 0 p) (a12 : ∀ p, A 37 0 p) (a13 : ∀ p, A 38 0 p) (a14 : ∀ p, A 42 0 p) (a15 : ∀ p, A 53 0 p) (a16 : ∀ p, A 54 0 p) : ok (f_X7_test M p0) (fun r => IV A B r.1 ∧ True) := by
  unfold f_X7_test
  refine ok_b0 (s_X7_isKata M hM p0) (fun v1 w1 => ?_)
  have w2 : (0 : Int32) ≤ v1 ∧ v1 ≤ (1 : Int32) ∧ ((v1 = 0 ∧ (p0 < 0 ∨ (M.1 26 0 3) ≤ p0)) ∨ (v1 = 1 ∧ 0 ≤ p0 ∧ p0 < (M.1 26 0 3))) := w1
  refine ok_ite (fun q3 => ?_) (fun q3 => ?_)
  · refine ok_b1 (s_X7_fails M hM (1 : Int32) (show (1 : Int32) ≤ (1 : Int32) ∧ (1 : Int32) ≤ (3 : Int32) from ⟨by decide, by decide⟩) (a7)) (fun M20 v19 w4 => ?_)
    have hM20 : IV A B M20 := w4.1
    have w5 : (0 : Int32) ≤ v19 ∧ v19 ≤ (0 : Int32) := w4.2
    exact ok_some ⟨hM20, trivial⟩
  · refine ok_gd ?_ (fun g6 => ?_)
    · have c7 : (0 : Int32) ≤ (M.1 26 0 3) ∧ (M.1 26 0 3) ≤ (8 : Int32) := hM.at1 26 0 3
      exact vp_of (by decide) (by grind) (show p0 < (8 : Int32) by grind)
    have g6 := vp_to (by decide) g6
    have g6 : (0 : Int32) ≤ p0 ∧ p0 < (8 : Int32) := g6
    refine ok_ite (fun q8 => ?_) (fun q8 => ?_)
    · refine ok_b1 (s_X7_fails M hM (2 : Int32) (show (1 : Int32) ≤ (2 : Int32) ∧ (2 : Int32) ≤ (3 : Int32) from ⟨by decide, by decide⟩) (a7)) (fun M17 v16 w9 => ?_)
      have hM17 : IV A B M17 := w9.1
      have w10 : (0 : Int32) ≤ v16 ∧ v16 ≤ (0 : Int32) := w9.2
      exact ok_some ⟨hM17, trivial⟩
    · refine ok_gd ?_ (fun g11 => ?_)
      · have c12 : (0 : Int32) ≤ (M.1 26 0 3) ∧ (M.1 26 0 3) ≤ (8 : Int32) := hM.at1 26 0 3
        have c13 : (0 : Int32) ≤ (M.1 33 0 (p0).toNatClampNeg) ∧ (M.1 33 0 (p0).toNatClampNeg) ≤ (5 : Int32) := hM.at1 33 0 ((p0).toNatClampNeg)
        exact vp_of (by decide) (by grind) (show p0 < (8 : Int32) by grind)
      have g11 := vp_to (by decide) g11
      have g11 : (0 : Int32) ≤ p0 ∧ p0 < (8 : Int32) := g11
      refine ok_gd ?_ (fun g14 => ?_)
      · have c15 : (0 : Int32) ≤ (M.1 26 0 3) ∧ (M.1 26 0 3) ≤ (8 : Int32) := hM.at1 26 0 3
        have c16 : (0 : Int32) ≤ (M.1 33 0 (p0).toNatClampNeg) ∧ (M.1 33 0 (p0).toNatClampNeg) ≤ (5 : Int32) := hM.at1 33 0 ((p0).toNatClampNeg)
        exact vp_of (by decide) (by grind) (show p0 < (8 : Int32) by grind)
      have g14 := vp_to (by decide) g14
      have g14 : (0 : Int32) ≤ p0 ∧ p0 < (8 : Int32) := g14
      refine ok_lq (fun M8 eq_17 => ?_)
      have pf18 : (0 : Int32) ≤ ((M.1 33 0 (p0).toNatClampNeg) + (1 : Int32)) ∧ ((M.1 33 0 (p0).toNatClampNeg) + (1 : Int32)) ≤ (5 : Int32) := by
        have c19 : (0 : Int32) ≤ (M.1 33 0 (p0).toNatClampNeg) ∧ (M.1 33 0 (p0).toNatClampNeg) ≤ (5 : Int32) := hM.at1 33 0 ((p0).toNatClampNeg)
        have c20 : (0 : Int32) ≤ (M.1 26 0 3) ∧ (M.1 26 0 3) ≤ (8 : Int32) := hM.at1 26 0 3
        exact ⟨by grind, by grind⟩
      have hM8 : IV A B M8 := by rw [eq_17]; exact hM.w1 rfl (a8) pf18
      refine ok_gd ?_ (fun g21 => ?_)
      · have c22 : (0 : Int32) ≤ (M.1 26 0 3) ∧ (M.1 26 0 3) ≤ (8 : Int32) := hM.at1 26 0 3
        have c23 : (0 : Int32) ≤ (M.1 33 0 (p0).toNatClampNeg) ∧ (M.1 33 0 (p0).toNatClampNeg) ≤ (5 : Int32) := hM.at1 33 0 ((p0).toNatClampNeg)
        exact vp_of (by decide) (by grind) (show p0 < (8 : Int32) by grind)
      have g21 := vp_to (by decide) g21
      have g21 : (0 : Int32) ≤ p0 ∧ p0 < (8 : Int32) := g21
      have pf24 : (0 : Int32) ≤ p0 ∧ p0 ≤ (7 : Int32) := by
        have c25 : (0 : Int32) ≤ (M.1 26 0 3) ∧ (M.1 26 0 3) ≤ (8 : Int32) := hM.at1 26 0 3
        have c26 : (0 : Int32) ≤ (M.1 33 0 (p0).toNatClampNeg) ∧ (M.1 33 0 (p0).toNatClampNeg) ≤ (5 : Int32) := hM.at1 33 0 ((p0).toNatClampNeg)
        exact ⟨by grind, by grind⟩
      have pf27 : (0 : Int32) ≤ ((M8.1 33 0 (p0).toNatClampNeg) - (1 : Int32)) ∧ ((M8.1 33 0 (p0).toNatClampNeg) - (1 : Int32)) ≤ (4 : Int32) := by
        have c28 : (0 : Int32) ≤ (M8.1 33 0 (p0).toNatClampNeg) ∧ (M8.1 33 0 (p0).toNatClampNeg) ≤ (5 : Int32) := hM8.at1 33 0 ((p0).toNatClampNeg)
        have c29 : (M8.1 33 0 (p0).toNatClampNeg) = ((M.1 33 0 (p0).toNatClampNeg) + (1 : Int32)) := by rw [eq_17]; exact up_s
        have c30 : (0 : Int32) ≤ (M.1 26 0 3) ∧ (M.1 26 0 3) ≤ (8 : Int32) := hM.at1 26 0 3
        have c31 : (0 : Int32) ≤ (M.1 33 0 (p0).toNatClampNeg) ∧ (M.1 33 0 (p0).toNatClampNeg) ≤ (5 : Int32) := hM.at1 33 0 ((p0).toNatClampNeg)
        exact ⟨by grind, by grind⟩
      refine ok_b1 (s_X7_puts M8 hM8 p0 pf24 ((M8.1 33 0 (p0).toNatClampNeg) - (1 : Int32)) pf27 (a1) (a2) (a3) (a4) (a5) (a6) (fun p => a9 p) (fun p => a10 p) (fun p => a11 p) (fun p => a12 p) (fun p => a13 p) (fun p => a14 p) (fun p => a15 p) (fun p => a16 p)) (fun M11 v10 w32 => ?_)
      have hM11 : IV A B M11 := w32.1
      have w33 : ((M11.1 26 0 1) = (0 : Int32) ∧ (M11.1 26 0 2) = (0 : Int32)) := w32.2
      refine ok_b1 (s_X7_tells M11 hM11 v10 (a7)) (fun M14 v13 w34 => ?_)
      have hM14 : IV A B M14 := w34.1
      exact ok_some ⟨hM14, trivial⟩
theorem s_X7_fix {A : Nat → Nat → Nat → Prop} {B : SS} (M : SS) (hM : IV A B M) (p0 : Int32) (p1 : Int32) (a1 : A 26 0 1) (a2 : A 26 0 2) (a3 : A 26 0 38) (a4 : A 26 0 39) (a5 : A 26 0 40) (a6 : A 26 0 7) (a7 : A 26 0 9) (a8 : ∀ p, A 34 0 p) (a9 : ∀ p, A 35 0 p) (a10 : ∀ p, A 36 0 p) (a11 : ∀ p, A 37 0 p) (a12 : ∀ p, A 38 0 p) (a13 : ∀ p, A 42 0 p) (a14 : ∀ p, A 53 0 p) (a15 : ∀ p, A 54 0 p) : ok (f_X7_fix M p0 p1) (fun r => IV A B r.1 ∧ True) := by
  unfold f_X7_fix
  refine ok_b0 (s_X7_isTest M hM p0 p1) (fun v1 w1 => ?_)
  have w2 : (0 : Int32) ≤ v1 ∧ v1 ≤ (1 : Int32) ∧ ((v1 = 0 ∧ ((p0 < 0 ∨ (M.1 26 0 3) ≤ p0) ∨ p1 < 0 ∨ (M.1 33 0 (p0).toNatClampNeg) ≤ p1)) ∨ (v1 = 1 ∧ 0 ≤ p0 ∧ p0 < (M.1 26 0 3) ∧ 0 ≤ p1 ∧ p1 < (M.1 33 0 (p0).toNatClampNeg))) := w1
  refine ok_ite (fun q3 => ?_) (fun q3 => ?_)
  · refine ok_b1 (s_X7_fails M hM (1 : Int32) (show (1 : Int32) ≤ (1 : Int32) ∧ (1 : Int32) ≤ (3 : Int32) from ⟨by decide, by decide⟩) (a7)) (fun M5 v4 w4 => ?_)
    have hM5 : IV A B M5 := w4.1
    have w5 : (0 : Int32) ≤ v4 ∧ v4 ≤ (0 : Int32) := w4.2
    exact ok_some ⟨hM5, trivial⟩
  · have pf6 : (0 : Int32) ≤ p0 ∧ p0 ≤ (7 : Int32) := by
      have c7 : (0 : Int32) ≤ (M.1 26 0 3) ∧ (M.1 26 0 3) ≤ (8 : Int32) := hM.at1 26 0 3
      have c8 : (0 : Int32) ≤ (M.1 33 0 (p0).toNatClampNeg) ∧ (M.1 33 0 (p0).toNatClampNeg) ≤ (5 : Int32) := hM.at1 33 0 ((p0).toNatClampNeg)
      exact ⟨by grind, by grind⟩
    have pf9 : (0 : Int32) ≤ p1 ∧ p1 ≤ (4 : Int32) := by
      have c10 : (0 : Int32) ≤ (M.1 26 0 3) ∧ (M.1 26 0 3) ≤ (8 : Int32) := hM.at1 26 0 3
      have c11 : (0 : Int32) ≤ (M.1 33 0 (p0).toNatClampNeg) ∧ (M.1 33 0 (p0).toNatClampNeg) ≤ (5 : Int32) := hM.at1 33 0 ((p0).toNatClampNeg)
      exact ⟨by grind, by grind⟩
    refine ok_b1 (s_X7_puts M hM p0 pf6 p1 pf9 (a1) (a2) (a3) (a4) (a5) (a6) (fun p => a8 p) (fun p => a9 p) (fun p => a10 p) (fun p => a11 p) (fun p => a12 p) (fun p => a13 p) (fun p => a14 p) (fun p => a15 p)) (fun M8 v7 w12 => ?_)
    have hM8 : IV A B M8 := w12.1
    have w13 : ((M8.1 26 0 1) = (0 : Int32) ∧ (M8.1 26 0 2) = (0 : Int32)) := w12.2
    refine ok_b1 (s_X7_tells M8 hM8 v7 (a7)) (fun M11 v10 w14 => ?_)
    have hM11 : IV A B M11 := w14.1
    exact ok_some ⟨hM11, trivial⟩
theorem s_X7_tests {A : Nat → Nat → Nat → Prop} {B : SS} (M : SS) (hM : IV A B M) (p0 : Int32) (a1 : A 26 0 9) : ok (f_X7_tests M p0) (fun r => IV A B r.1 ∧ True) := by
  unfold f_X7_tests
  refine ok_b0 (s_X7_isKata M hM p0) (fun v1 w1 => ?_)
  have w2 : (0 : Int32) ≤ v1 ∧ v1 ≤ (1 : Int32) ∧ ((v1 = 0 ∧ (p0 < 0 ∨ (M.1 26 0 3) ≤ p0)) ∨ (v1 = 1 ∧ 0 ≤ p0 ∧ p0 < (M.1 26 0 3))) := w1
  refine ok_ite (fun q3 => ?_) (fun q3 => ?_)
  · refine ok_b1 (s_X7_fails M hM (1 : Int32) (show (1 : Int32) ≤ (1 : Int32) ∧ (1 : Int32) ≤ (3 : Int32) from ⟨by decide, by decide⟩) (a1)) (fun M5 v4 w4 => ?_)
    have hM5 : IV A B M5 := w4.1
    have w5 : (0 : Int32) ≤ v4 ∧ v4 ≤ (0 : Int32) := w4.2
    exact ok_some ⟨hM5, trivial⟩
  · refine ok_gd ?_ (fun g6 => ?_)
    · have c7 : (0 : Int32) ≤ (M.1 26 0 3) ∧ (M.1 26 0 3) ≤ (8 : Int32) := hM.at1 26 0 3
      exact vp_of (by decide) (by grind) (show p0 < (8 : Int32) by grind)
    have g6 := vp_to (by decide) g6
    have g6 : (0 : Int32) ≤ p0 ∧ p0 < (8 : Int32) := g6
    refine ok_b1 (s_X7_tells M hM (M.1 33 0 (p0).toNatClampNeg) (a1)) (fun M9 v8 w8 => ?_)
    have hM9 : IV A B M9 := w8.1
    exact ok_some ⟨hM9, trivial⟩
theorem s_X7_run_L84 {A : Nat → Nat → Nat → Prop} {B : SS} (a1 : ∀ p, A 55 0 p) : ∀ (n : Nat), ∀ (v16 : Int32) (M17 : SS) (k14 : (SS → Option (SS × Int32))), (FU v16 6 n) → ((0 : Int32) ≤ v16 ∧ v16 ≤ (6 : Int32)) → (IV A B M17) → (∀ (k_0 : SS), (IV A B k_0) → ok (k14 k_0) (fun r => IV A B r.1 ∧ (0 : Int32) ≤ r.2 ∧ r.2 ≤ (122 : Int32))) → ok (f_X7_run_L84 n v16 M17 k14) (fun r => IV A B r.1 ∧ (0 : Int32) ≤ r.2 ∧ r.2 ≤ (122 : Int32)) := by
  intro n
  induction n with
  | zero =>
    intro v16 M17 k14 hF iv16 hM17 hk
    exact (FU.stop hF (show v16 ≤ (6 : Int32) by grind)).elim
  | succ n ih =>
    intro v16 M17 k14 hF iv16 hM17 hk
    rw [f_X7_run_L84]
    refine ok_ite (fun q1 => ?_) (fun q1 => ?_)
    · exact hk M17 hM17
    · refine ok_gd ?_ (fun g2 => ?_)
      · have c3 : (0 : Int32) ≤ (M17.1 26 0 39) ∧ (M17.1 26 0 39) ≤ (6 : Int32) := hM17.at1 26 0 39
        exact vp_of (by decide) (by grind) (show v16 < (6 : Int32) by grind)
      have g2 := vp_to (by decide) g2
      have g2 : (0 : Int32) ≤ v16 ∧ v16 < (6 : Int32) := g2
      refine ok_gd ?_ (fun g4 => ?_)
      · have c5 : (0 : Int32) ≤ (M17.1 26 0 39) ∧ (M17.1 26 0 39) ≤ (6 : Int32) := hM17.at1 26 0 39
        exact vp_of (by decide) (by grind) (show v16 < (6 : Int32) by grind)
      have g4 := vp_to (by decide) g4
      have g4 : (0 : Int32) ≤ v16 ∧ v16 < (6 : Int32) := g4
      refine ok_lq (fun M22 eq_6 => ?_)
      have hM22 : IV A B M22 := by rw [eq_6]; exact hM17.w1f rfl (a1 ((v16).toNatClampNeg)) rfl
      have pf7 : FU (v16 + (1 : Int32)) 6 n := by
        have c8 : (0 : Int32) ≤ (M17.1 26 0 39) ∧ (M17.1 26 0 39) ≤ (6 : Int32) := hM17.at1 26 0 39
        exact FU.step hF (by grind)
      have pf9 : (0 : Int32) ≤ (v16 + (1 : Int32)) ∧ (v16 + (1 : Int32)) ≤ (6 : Int32) := by
        have c10 : (0 : Int32) ≤ (M17.1 26 0 39) ∧ (M17.1 26 0 39) ≤ (6 : Int32) := hM17.at1 26 0 39
        exact ⟨by grind, by grind⟩
      exact ih (v16 + (1 : Int32)) M22 k14 pf7 pf9 hM22 hk
theorem s_X7_run {A : Nat → Nat → Nat → Prop} {B : SS} (M : SS) (hM : IV A B M) (p0 : Int32) (p1 : Int32) (a1 : A 26 0 38) (a2 : A 26 0 39) (a3 : A 26 0 40) (a4 : A 26 0 41) (a5 : A 26 0 42) (a6 : A 26 0 43) (a7 : A 26 0 44) (a8 : A 26 0 9) (a9 : ∀ p, A 53 0 p) (a10 : ∀ p, A 54 0 p) (a11 : ∀ p, A 55 0 p) : ok (f_X7_run M p0 p1) (fun r => IV A B r.1 ∧ (0 : Int32) ≤ r.2 ∧ r.2 ≤ (122 : Int32)) := by
  unfold f_X7_run
  refine ok_b0 (s_X7_isTest M hM p0 p1) (fun v1 w1 => ?_)
  have w2 : (0 : Int32) ≤ v1 ∧ v1 ≤ (1 : Int32) ∧ ((v1 = 0 ∧ ((p0 < 0 ∨ (M.1 26 0 3) ≤ p0) ∨ p1 < 0 ∨ (M.1 33 0 (p0).toNatClampNeg) ≤ p1)) ∨ (v1 = 1 ∧ 0 ≤ p0 ∧ p0 < (M.1 26 0 3) ∧ 0 ≤ p1 ∧ p1 < (M.1 33 0 (p0).toNatClampNeg))) := w1
  refine ok_ite (fun q3 => ?_) (fun q3 => ?_)
  · unfold f_X7_run_J28
    refine ok_lq (fun M5 eq_4 => ?_)
    have hM5 : IV A B M5 := by rw [eq_4]; exact hM.w1 rfl (a8) (show (0 : Int32) ≤ (1 : Int32) ∧ (1 : Int32) ≤ (3 : Int32) from ⟨by decide, by decide⟩)
    refine ok_ite (fun q5 => ?_) (fun q5 => ?_)
    · have c6 : (M5.1 26 0 9) = (1 : Int32) := by rw [eq_4]; exact up_s
      exfalso
      grind
    · have c7 : (M5.1 26 0 9) = (1 : Int32) := by rw [eq_4]; exact up_s
      have pf8 : (0 : Int32) ≤ (0 : Int32) ∧ (0 : Int32) ≤ (122 : Int32) := by
        exact ⟨by grind, by grind⟩
      exact ok_some ⟨hM5, pf8⟩
  · refine ok_b0 (s_X7_isWhole M hM (40 : Int32) (show (40 : Int32) ≤ (40 : Int32) ∧ (40 : Int32) ≤ (40 : Int32) from ⟨by decide, by decide⟩)) (fun v24 w9 => ?_)
    have w10 : (0 : Int32) ≤ v24 ∧ v24 ≤ (1 : Int32) := w9
    refine ok_ite (fun q11 => ?_) (fun q11 => ?_)
    · unfold f_X7_run_J28
      refine ok_lq (fun M5 eq_12 => ?_)
      have hM5 : IV A B M5 := by rw [eq_12]; exact hM.w1 rfl (a8) (show (0 : Int32) ≤ (2 : Int32) ∧ (2 : Int32) ≤ (3 : Int32) from ⟨by decide, by decide⟩)
      refine ok_ite (fun q13 => ?_) (fun q13 => ?_)
      · have c14 : (M5.1 26 0 9) = (2 : Int32) := by rw [eq_12]; exact up_s
        exfalso
        grind
      · have c15 : (M5.1 26 0 9) = (2 : Int32) := by rw [eq_12]; exact up_s
        have pf16 : (0 : Int32) ≤ (0 : Int32) ∧ (0 : Int32) ≤ (122 : Int32) := by
          exact ⟨by grind, by grind⟩
        exact ok_some ⟨hM5, pf16⟩
    · unfold f_X7_run_J28
      refine ok_lq (fun M5 eq_17 => ?_)
      have hM5 : IV A B M5 := by rw [eq_17]; exact hM.w1 rfl (a8) (show (0 : Int32) ≤ (0 : Int32) ∧ (0 : Int32) ≤ (3 : Int32) from ⟨by decide, by decide⟩)
      refine ok_ite (fun q18 => ?_) (fun q18 => ?_)
      · have c19 : (M5.1 26 0 9) = (0 : Int32) := by rw [eq_17]; exact up_s
        have pf20 : (0 : Int32) ≤ (((5 : Int32) * p0) + p1) ∧ (((5 : Int32) * p0) + p1) ≤ (39 : Int32) := by
          have c21 : (0 : Int32) ≤ (M.1 26 0 3) ∧ (M.1 26 0 3) ≤ (8 : Int32) := hM.at1 26 0 3
          have c22 : (0 : Int32) ≤ (M.1 33 0 (p0).toNatClampNeg) ∧ (M.1 33 0 (p0).toNatClampNeg) ≤ (5 : Int32) := hM.at1 33 0 ((p0).toNatClampNeg)
          exact ⟨by grind, by grind⟩
        refine ok_b1 (s_X7_runs M5 hM5 (40 : Int32) (show (0 : Int32) ≤ (40 : Int32) ∧ (40 : Int32) ≤ (40 : Int32) from ⟨by decide, by decide⟩) (((5 : Int32) * p0) + p1) pf20 (a1) (a2) (a3) (fun p => a9 p) (fun p => a10 p)) (fun M8 v7 w23 => ?_)
        have hM8 : IV A B M8 := w23.1
        have w24 : (101 : Int32) ≤ v7 ∧ v7 ≤ (122 : Int32) := w23.2
        refine ok_lq (fun M10 eq_25 => ?_)
        have hM10 : IV A B M10 := by rw [eq_25]; exact hM8.w1 rfl (a4) (show (0 : Int32) ≤ (1 : Int32) ∧ (1 : Int32) ≤ (1 : Int32) from ⟨by decide, by decide⟩)
        refine ok_lq (fun M11 eq_26 => ?_)
        have hM11 : IV A B M11 := by rw [eq_26]; exact hM10.w1f rfl (a5) rfl
        refine ok_lq (fun M12 eq_27 => ?_)
        have pf28 : (0 : Int32) ≤ (M11.1 26 0 39) ∧ (M11.1 26 0 39) ≤ (6 : Int32) := by
          have c29 : (0 : Int32) ≤ (M11.1 26 0 39) ∧ (M11.1 26 0 39) ≤ (6 : Int32) := hM11.at1 26 0 39
          have c30 : (M11.1 26 0 39) = (M10.1 26 0 39) := by rw [eq_26]; exact up_p (by decide)
          have c31 : (0 : Int32) ≤ (M10.1 26 0 39) ∧ (M10.1 26 0 39) ≤ (6 : Int32) := hM10.at1 26 0 39
          have c32 : (M10.1 26 0 39) = (M8.1 26 0 39) := by rw [eq_25]; exact up_p (by decide)
          have c33 : (0 : Int32) ≤ (M8.1 26 0 39) ∧ (M8.1 26 0 39) ≤ (6 : Int32) := hM8.at1 26 0 39
          exact ⟨by grind, by grind⟩
        have hM12 : IV A B M12 := by rw [eq_27]; exact hM11.w1 rfl (a6) pf28
        refine ok_lq (fun M13 eq_34 => ?_)
        have hM13 : IV A B M13 := by rw [eq_34]; exact hM12.w1f rfl (a7) rfl
        have pf35 : FU (0 : Int32) 6 1000 := by
          exact FU.start (by grind) (by decide)
        refine s_X7_run_L84 (fun p => a11 p) 1000 (0 : Int32) M13 _ pf35 (show (0 : Int32) ≤ (0 : Int32) ∧ (0 : Int32) ≤ (6 : Int32) from ⟨by decide, by decide⟩) hM13 (fun M15 hM15 => ?_)
        refine ok_gd ?_ (fun g36 => ?_)
        · exact okc_of (by grind) (by grind)
        have pf37 : (0 : Int32) ≤ v7 ∧ v7 ≤ (122 : Int32) := by
          exact ⟨by grind, by grind⟩
        exact ok_some ⟨hM15, pf37⟩
      · have c38 : (M5.1 26 0 9) = (0 : Int32) := by rw [eq_17]; exact up_s
        exfalso
        grind
theorem s_X7_done {A : Nat → Nat → Nat → Prop} {B : SS} (M : SS) (hM : IV A B M) (a1 : A 26 0 9) : ok (f_X7_done M) (fun r => IV A B r.1 ∧ True) := by
  unfold f_X7_done
  refine ok_ite (fun q1 => ?_) (fun q1 => ?_)
  · refine ok_b1 (s_X7_fails M hM (1 : Int32) (show (1 : Int32) ≤ (1 : Int32) ∧ (1 : Int32) ≤ (3 : Int32) from ⟨by decide, by decide⟩) (a1)) (fun M3 v2 w2 => ?_)
    have hM3 : IV A B M3 := w2.1
    have w3 : (0 : Int32) ≤ v2 ∧ v2 ≤ (0 : Int32) := w2.2
    exact ok_some ⟨hM3, trivial⟩
  · refine ok_b1 (s_X7_tells M hM (M.1 26 0 44) (a1)) (fun M6 v5 w4 => ?_)
    have hM6 : IV A B M6 := w4.1
    exact ok_some ⟨hM6, trivial⟩
theorem s_X7_outputs {A : Nat → Nat → Nat → Prop} {B : SS} (M : SS) (hM : IV A B M) (a1 : A 26 0 9) : ok (f_X7_outputs M) (fun r => IV A B r.1 ∧ True) := by
  unfold f_X7_outputs
  refine ok_ite (fun q1 => ?_) (fun q1 => ?_)
  · refine ok_b1 (s_X7_fails M hM (1 : Int32) (show (1 : Int32) ≤ (1 : Int32) ∧ (1 : Int32) ≤ (3 : Int32) from ⟨by decide, by decide⟩) (a1)) (fun M3 v2 w2 => ?_)
    have hM3 : IV A B M3 := w2.1
    have w3 : (0 : Int32) ≤ v2 ∧ v2 ≤ (0 : Int32) := w2.2
    exact ok_some ⟨hM3, trivial⟩
  · refine ok_b1 (s_X7_tells M hM (M.1 26 0 43) (a1)) (fun M6 v5 w4 => ?_)
    have hM6 : IV A B M6 := w4.1
    exact ok_some ⟨hM6, trivial⟩
theorem s_X7_output {A : Nat → Nat → Nat → Prop} {B : SS} (M : SS) (hM : IV A B M) (p0 : Int32) (a1 : A 26 0 9) : ok (f_X7_output M p0) (fun r => IV A B r.1 ∧ True) := by
  unfold f_X7_output
  refine ok_ite (fun q1 => ?_) (fun q1 => ?_)
  · refine ok_b1 (s_X7_fails M hM (1 : Int32) (show (1 : Int32) ≤ (1 : Int32) ∧ (1 : Int32) ≤ (3 : Int32) from ⟨by decide, by decide⟩) (a1)) (fun M3 v2 w2 => ?_)
    have hM3 : IV A B M3 := w2.1
    have w3 : (0 : Int32) ≤ v2 ∧ v2 ≤ (0 : Int32) := w2.2
    exact ok_some ⟨hM3, trivial⟩
  · have pf4 : ((-1) : Int32) ≤ ((M.1 26 0 43) - (1 : Int32)) ∧ ((M.1 26 0 43) - (1 : Int32)) ≤ (999 : Int32) := by
      have c5 : (0 : Int32) ≤ (M.1 26 0 43) ∧ (M.1 26 0 43) ≤ (6 : Int32) := hM.at1 26 0 43
      exact ⟨by grind, by grind⟩
    refine ok_b0 (s_X7_in p0 (0 : Int32) (show ((-999) : Int32) ≤ (0 : Int32) ∧ (0 : Int32) ≤ (1 : Int32) from ⟨by decide, by decide⟩) ((M.1 26 0 43) - (1 : Int32)) pf4) (fun v5 w6 => ?_)
    have w7 : (0 : Int32) ≤ v5 ∧ v5 ≤ (1 : Int32) ∧ ((v5 = 0 ∧ (p0 < (0 : Int32) ∨ ((M.1 26 0 43) - (1 : Int32)) < p0)) ∨ (v5 = 1 ∧ (0 : Int32) ≤ p0 ∧ p0 ≤ ((M.1 26 0 43) - (1 : Int32)))) := w6
    refine ok_ite (fun q8 => ?_) (fun q8 => ?_)
    · refine ok_b1 (s_X7_fails M hM (1 : Int32) (show (1 : Int32) ≤ (1 : Int32) ∧ (1 : Int32) ≤ (3 : Int32) from ⟨by decide, by decide⟩) (a1)) (fun M9 v8 w9 => ?_)
      have hM9 : IV A B M9 := w9.1
      have w10 : (0 : Int32) ≤ v8 ∧ v8 ≤ (0 : Int32) := w9.2
      exact ok_some ⟨hM9, trivial⟩
    · refine ok_gd ?_ (fun g11 => ?_)
      · have c12 : (0 : Int32) ≤ (M.1 26 0 43) ∧ (M.1 26 0 43) ≤ (6 : Int32) := hM.at1 26 0 43
        exact vp_of (by decide) (by grind) (show p0 < (6 : Int32) by grind)
      have g11 := vp_to (by decide) g11
      have g11 : (0 : Int32) ≤ p0 ∧ p0 < (6 : Int32) := g11
      refine ok_b1 (s_X7_tells M hM (M.1 55 0 (p0).toNatClampNeg) (a1)) (fun M13 v12 w13 => ?_)
      have hM13 : IV A B M13 := w13.1
      exact ok_some ⟨hM13, trivial⟩
theorem s_X7_depth {A : Nat → Nat → Nat → Prop} {B : SS} (M : SS) (hM : IV A B M) (a1 : A 26 0 9) : ok (f_X7_depth M) (fun r => IV A B r.1 ∧ True) := by
  unfold f_X7_depth
  refine ok_ite (fun q1 => ?_) (fun q1 => ?_)
  · refine ok_b1 (s_X7_fails M hM (1 : Int32) (show (1 : Int32) ≤ (1 : Int32) ∧ (1 : Int32) ≤ (3 : Int32) from ⟨by decide, by decide⟩) (a1)) (fun M3 v2 w2 => ?_)
    have hM3 : IV A B M3 := w2.1
    have w3 : (0 : Int32) ≤ v2 ∧ v2 ≤ (0 : Int32) := w2.2
    exact ok_some ⟨hM3, trivial⟩
  · refine ok_b1 (s_X7_tells M hM (M.1 26 0 42) (a1)) (fun M6 v5 w4 => ?_)
    have hM6 : IV A B M6 := w4.1
    exact ok_some ⟨hM6, trivial⟩
theorem s_X7_isMember {A : Nat → Nat → Nat → Prop} {B : SS} (M : SS) (hM : IV A B M) (p0 : Int32) : ok (f_X7_isMember M p0) (fun r => (0 : Int32) ≤ r ∧ r ≤ (1 : Int32) ∧ ((r = 0 ∧ (p0 < 0 ∨ (M.1 26 0 4) ≤ p0)) ∨ (r = 1 ∧ 0 ≤ p0 ∧ p0 < (M.1 26 0 4)))) := by
  unfold f_X7_isMember
  have pf1 : ((-1) : Int32) ≤ ((M.1 26 0 4) - (1 : Int32)) ∧ ((M.1 26 0 4) - (1 : Int32)) ≤ (999 : Int32) := by
    have c2 : (0 : Int32) ≤ (M.1 26 0 4) ∧ (M.1 26 0 4) ≤ (10 : Int32) := hM.at1 26 0 4
    exact ⟨by grind, by grind⟩
  refine ok_b0 (s_X7_in p0 (0 : Int32) (show ((-999) : Int32) ≤ (0 : Int32) ∧ (0 : Int32) ≤ (1 : Int32) from ⟨by decide, by decide⟩) ((M.1 26 0 4) - (1 : Int32)) pf1) (fun v1 w3 => ?_)
  have w4 : (0 : Int32) ≤ v1 ∧ v1 ≤ (1 : Int32) ∧ ((v1 = 0 ∧ (p0 < (0 : Int32) ∨ ((M.1 26 0 4) - (1 : Int32)) < p0)) ∨ (v1 = 1 ∧ (0 : Int32) ≤ p0 ∧ p0 ≤ ((M.1 26 0 4) - (1 : Int32)))) := w3
  refine ok_gd ?_ (fun g5 => ?_)
  · have c6 : (0 : Int32) ≤ (M.1 26 0 4) ∧ (M.1 26 0 4) ≤ (10 : Int32) := hM.at1 26 0 4
    exact okz_of (by grind) (by grind)
  have pf7 : (0 : Int32) ≤ v1 ∧ v1 ≤ (1 : Int32) ∧ ((v1 = 0 ∧ (p0 < 0 ∨ (M.1 26 0 4) ≤ p0)) ∨ (v1 = 1 ∧ 0 ≤ p0 ∧ p0 < (M.1 26 0 4))) := by
    have c8 : (0 : Int32) ≤ (M.1 26 0 4) ∧ (M.1 26 0 4) ≤ (10 : Int32) := hM.at1 26 0 4
    grind
  exact ok_some pf7
theorem s_X7_isWork {A : Nat → Nat → Nat → Prop} {B : SS} (M : SS) (hM : IV A B M) (p0 : Int32) : ok (f_X7_isWork M p0) (fun r => (0 : Int32) ≤ r ∧ r ≤ (1 : Int32) ∧ ((r = 0 ∧ (p0 < 0 ∨ (M.1 26 0 5) ≤ p0)) ∨ (r = 1 ∧ 0 ≤ p0 ∧ p0 < (M.1 26 0 5)))) := by
  unfold f_X7_isWork
  have pf1 : ((-1) : Int32) ≤ ((M.1 26 0 5) - (1 : Int32)) ∧ ((M.1 26 0 5) - (1 : Int32)) ≤ (999 : Int32) := by
    have c2 : (0 : Int32) ≤ (M.1 26 0 5) ∧ (M.1 26 0 5) ≤ (40 : Int32) := hM.at1 26 0 5
    exact ⟨by grind, by grind⟩
  refine ok_b0 (s_X7_in p0 (0 : Int32) (show ((-999) : Int32) ≤ (0 : Int32) ∧ (0 : Int32) ≤ (1 : Int32) from ⟨by decide, by decide⟩) ((M.1 26 0 5) - (1 : Int32)) pf1) (fun v1 w3 => ?_)
  have w4 : (0 : Int32) ≤ v1 ∧ v1 ≤ (1 : Int32) ∧ ((v1 = 0 ∧ (p0 < (0 : Int32) ∨ ((M.1 26 0 5) - (1 : Int32)) < p0)) ∨ (v1 = 1 ∧ (0 : Int32) ≤ p0 ∧ p0 ≤ ((M.1 26 0 5) - (1 : Int32)))) := w3
  refine ok_gd ?_ (fun g5 => ?_)
  · have c6 : (0 : Int32) ≤ (M.1 26 0 5) ∧ (M.1 26 0 5) ≤ (40 : Int32) := hM.at1 26 0 5
    exact okz_of (by grind) (by grind)
  have pf7 : (0 : Int32) ≤ v1 ∧ v1 ≤ (1 : Int32) ∧ ((v1 = 0 ∧ (p0 < 0 ∨ (M.1 26 0 5) ≤ p0)) ∨ (v1 = 1 ∧ 0 ≤ p0 ∧ p0 < (M.1 26 0 5))) := by
    have c8 : (0 : Int32) ≤ (M.1 26 0 5) ∧ (M.1 26 0 5) ≤ (40 : Int32) := hM.at1 26 0 5
    grind
  exact ok_some pf7
theorem s_X7_member {A : Nat → Nat → Nat → Prop} {B : SS} (M : SS) (hM : IV A B M) (a1 : A 26 0 4) (a2 : A 26 0 9) (a3 : ∀ p, A 51 0 p) : ok (f_X7_member M) (fun r => IV A B r.1 ∧ True) := by
  unfold f_X7_member
  refine ok_ite (fun q1 => ?_) (fun q1 => ?_)
  · refine ok_b1 (s_X7_fails M hM (1 : Int32) (show (1 : Int32) ≤ (1 : Int32) ∧ (1 : Int32) ≤ (3 : Int32) from ⟨by decide, by decide⟩) (a2)) (fun M9 v8 w2 => ?_)
    have hM9 : IV A B M9 := w2.1
    have w3 : (0 : Int32) ≤ v8 ∧ v8 ≤ (0 : Int32) := w2.2
    exact ok_some ⟨hM9, trivial⟩
  · refine ok_gd ?_ (fun g4 => ?_)
    · have c5 : (0 : Int32) ≤ (M.1 26 0 4) ∧ (M.1 26 0 4) ≤ (10 : Int32) := hM.at1 26 0 4
      exact vp_of (by decide) (by grind) (show (M.1 26 0 4) < (10 : Int32) by grind)
    have g4 := vp_to (by decide) g4
    have g4 : (0 : Int32) ≤ (M.1 26 0 4) ∧ (M.1 26 0 4) < (10 : Int32) := g4
    refine ok_lq (fun M3 eq_6 => ?_)
    have hM3 : IV A B M3 := by rw [eq_6]; exact hM.w1f rfl (a3 (((M.1 26 0 4)).toNatClampNeg)) rfl
    refine ok_lq (fun M4 eq_7 => ?_)
    have pf8 : (0 : Int32) ≤ ((M3.1 26 0 4) + (1 : Int32)) ∧ ((M3.1 26 0 4) + (1 : Int32)) ≤ (10 : Int32) := by
      have c9 : (0 : Int32) ≤ (M3.1 26 0 4) ∧ (M3.1 26 0 4) ≤ (10 : Int32) := hM3.at1 26 0 4
      have c10 : (M3.1 26 0 4) = (M.1 26 0 4) := by rw [eq_6]; exact up_k (by decide)
      have c11 : (0 : Int32) ≤ (M.1 26 0 4) ∧ (M.1 26 0 4) ≤ (10 : Int32) := hM.at1 26 0 4
      exact ⟨by grind, by grind⟩
    have hM4 : IV A B M4 := by rw [eq_7]; exact hM3.w1 rfl (a1) pf8
    refine ok_b1 (s_X7_tells M4 hM4 ((M4.1 26 0 4) - (1 : Int32)) (a2)) (fun M6 v5 w12 => ?_)
    have hM6 : IV A B M6 := w12.1
    exact ok_some ⟨hM6, trivial⟩
def CPI (q v : Nat) (M : SS) : Prop := M.1 29 0 40 = M.1 26 0 0 ∧ M.1 29 0 q = M.1 29 0 40 ∧ (∀ r a : Nat, r ≤ 40 → r ≠ q → a < 24 → nI a < M.1 29 0 r → isL (M.1 27 0 (24 * r + a))) ∧ ∀ a : Nat, a < v → isL (M.1 27 0 (24 * q + a))
theorem cp_L14 {A : Nat → Nat → Nat → Prop} {B : SS} {q : Nat} (hq : q ≤ 39) (a27 : ∀ p, p < 960 → A 27 0 p) (a28 : ∀ p, p < 960 → A 28 0 p) {P : SS × Unit → Prop} : ∀ (n : Nat) (a : Nat) (M7 : SS) (k4 : SS → Option (SS × Unit)), 25 ≤ a + n → a ≤ 24 → IV0 A B M7 → CPI q a M7 → (∀ M5, IV A B M5 → ok (k4 M5) P) → ok (f_X7_copies_L14 40 (nI q) n (nI a) M7 k4) P := by
  intro n
  induction n with
  | zero => intro a M7 k4 hF ha; omega
  | succ n ih =>
    intro a M7 k4 hF ha hM hC hk
    rw [f_X7_copies_L14]
    have hs : (0 : Int32) ≤ M7.1 29 0 40 ∧ M7.1 29 0 40 ≤ (24 : Int32) := hM.at1 29 0 40
    refine ok_gd (nI_in (c := 40) (by decide) (by decide)) (fun g => ?_)
    rw [show ((40 : Int32)).toNatClampNeg = 40 from rfl]
    refine ok_ite (fun c => ?_) (fun c => ?_)
    · refine hk M7 ⟨hM, hC.1, fun r b hr hb hs2 => ?_⟩
      by_cases hrq : r = q
      · subst hrq
        rw [hC.2.1] at hs2
        refine hC.2.2.2 b ?_
        have : nI b < nI a := by grind
        exact (nI_ltI (by omega) (by omega)).mp this
      · exact hC.2.2.1 r b hr hrq hb hs2
    · have ha24 : a < 24 := by
        have : nI a < (24 : Int32) := by grind
        exact (nI_ltI (by omega) (by decide : (24 : Nat) < 2 ^ 31)).mp this
      have hsz : nI a < M7.1 29 0 40 := by grind
      have e1 : ((24 : Int32) * (40 : Int32)) + nI a = nI (24 * 40 + a) := by rw [show (24 : Int32) = nI 24 from rfl, show (40 : Int32) = nI 40 from rfl, pk_mul, nI_add]
      have e2 : ((24 : Int32) * nI q) + nI a = nI (24 * q + a) := by rw [show (24 : Int32) = nI 24 from rfl, pk_mul, nI_add]
      rw [e1, e2, nI_clamp (show 24 * 40 + a < 2 ^ 31 by omega), nI_clamp (show 24 * q + a < 2 ^ 31 by omega)]
      have v1 : vp_in (nI (24 * 40 + a)) 984 := nI_in (by omega) (by decide)
      have v2 : vp_in (nI (24 * q + a)) 984 := nI_in (by omega) (by decide)
      refine ok_gd v1 (fun _ => ok_gd v2 (fun _ => ok_lq (fun M12 e12 => ok_gd v1 (fun _ => ok_gd v2 (fun _ => ok_lq (fun M15 e15 => ?_))))))
      have hL : isL (M7.1 27 0 (24 * 40 + a)) := hC.2.2.1 40 a (Nat.le_refl _) (by omega) ha24 hsz
      rw [nar_isL hL] at e12
      have h12 : IV0 A B M12 := by rw [e12]; exact hM.w1 (a27 _ (by omega)) (hM.at1 27 0 (24 * 40 + a))
      have h15 : IV0 A B M15 := by rw [e15]; exact h12.w1f rfl (a28 _ (by omega))
      rw [nI_1]
      have e27 : ∀ p, M15.1 27 0 p = if p = 24 * q + a then M7.1 27 0 (24 * 40 + a) else M7.1 27 0 p := by
        intro p
        rw [e15, up_k (by decide), e12, up_e]
        by_cases z : p = 24 * q + a
        · rw [if_pos ⟨rfl, rfl, z⟩, if_pos z]
        · rw [if_neg (fun q => z q.2.2), if_neg z]
      have e29 : ∀ p, M15.1 29 0 p = M7.1 29 0 p := fun p => by rw [e15, up_k (by decide), e12, up_k (by decide)]
      have e26 : M15.1 26 0 0 = M7.1 26 0 0 := by rw [e15, up_k (by decide), e12, up_k (by decide)]
      refine ih (a + 1) M15 k4 (by omega) (by omega) h15 ⟨by rw [e29, e26]; exact hC.1, by rw [e29, e29]; exact hC.2.1, fun r b hr hrq hb hs2 => ?_, fun b hb => ?_⟩ hk
      · rw [e29] at hs2
        rw [e27, if_neg (by omega)]
        exact hC.2.2.1 r b hr hrq hb hs2
      · rw [e27]
        by_cases z : b = a
        · rw [if_pos (by omega)]
          exact hL
        · rw [if_neg (by omega)]
          exact hC.2.2.2 b (by omega)
