set_option maxHeartbeats 4000000 in
set_option maxRecDepth 100000 in
theorem as_all {dC : Nat → ClassId} {dI : Nat → Nat → Nat} {cA : Nat → ClassId} {N : Nat} {H : Heap} (hX : va_P (dC, dI) vwCl (fin_X6_init ((dC, dI), cA, fun kd i => N + off kd i) N (N + 1)) H) (hR : va_P (dC, dI) vwCl (fin_X7_init ((dC, dI), cA, fun kd i => N + off kd i) (N + 558) (N + 559)) H) (h56 : va_at (dC, dI) vwCl (N + 588, .inl (cA 3, 1, .inr (.inl (fun _ => 0)))) H) (h57 : va_at (dC, dI) vwCl (N + 589, .inl (cA 4, 1, .inr (.inr (.inr (.inl (fun _ => 0)))))) H) : wP ((dC, dI), cA, fun kd i => N + off kd i) G0 H := by
  have hX2 := hX
  unfold fin_X6_init at hX2
  have hW : ∀ i : Nat, i < 40 → va_P (dC, dI) vwCl (fin_X5_init ((dC, dI), cA, fun kd i => N + off kd i) (N + 278 + 7 * i) (N + 278 + 7 * i + 1)) H := fun i hi => by
    have h := vP_bk (vP_r (vP_r hX2)) hi
    rw [show N + 1 + 277 = N + 278 from rfl] at h
    exact h
  have hM : ∀ i : Nat, i < 10 → va_P (dC, dI) vwCl (fin_X2_init ((dC, dI), cA, fun kd i => N + off kd i) (N + 158 + 12 * i) (N + 158 + 12 * i + 1)) H := fun i hi => by
    have h := vP_bk (vP_r (vP_l (vP_r hX2))) hi
    rw [show N + 1 + 157 = N + 158 from rfl] at h
    exact h
  have hK : ∀ i : Nat, i < 8 → va_P (dC, dI) vwCl (fin_X0_init ((dC, dI), cA, fun kd i => N + off kd i) (N + 22 + 17 * i) (N + 22 + 17 * i + 1)) H := fun i hi => by
    have h := vP_bk (vP_l (vP_l (vP_r hX2))) hi
    rw [show N + 1 + 21 = N + 22 from rfl] at h
    exact h
  intro k q hk
  obtain ⟨kd, i, h1, rfl⟩ := wS_get hk
  have hi := ids_lt (List.mem_of_getElem? h1)
  show va_at (dC, dI) vwCl (N + off kd i, ent ((dC, dI), cA, fun kd i => N + off kd i) G0 kd i) H
  have hkd : kd < 58 := by
    rcases Nat.lt_or_ge kd 58 with z | z
    · exact z
    · exfalso
      unfold cnt at hi
      rw [List.getD_eq_getElem?_getD, List.getElem?_eq_none (by exact z)] at hi
      exact Nat.not_lt_zero _ hi
  clear hk h1 k
  rcases (show kd = 0 ∨ kd = 1 ∨ kd = 2 ∨ kd = 3 ∨ kd = 4 ∨ kd = 5 ∨ kd = 6 ∨ kd = 7 ∨ kd = 8 ∨ kd = 9 ∨ kd = 10 ∨ kd = 11 ∨ kd = 12 ∨ kd = 13 ∨ kd = 14 ∨ kd = 15 ∨ kd = 16 ∨ kd = 17 ∨ kd = 18 ∨ kd = 19 ∨ kd = 20 ∨ kd = 21 ∨ kd = 22 ∨ kd = 23 ∨ kd = 24 ∨ kd = 25 ∨ kd = 26 ∨ kd = 27 ∨ kd = 28 ∨ kd = 29 ∨ kd = 30 ∨ kd = 31 ∨ kd = 32 ∨ kd = 33 ∨ kd = 34 ∨ kd = 35 ∨ kd = 36 ∨ kd = 37 ∨ kd = 38 ∨ kd = 39 ∨ kd = 40 ∨ kd = 41 ∨ kd = 42 ∨ kd = 43 ∨ kd = 44 ∨ kd = 45 ∨ kd = 46 ∨ kd = 47 ∨ kd = 48 ∨ kd = 49 ∨ kd = 50 ∨ kd = 51 ∨ kd = 52 ∨ kd = 53 ∨ kd = 54 ∨ kd = 55 ∨ kd = 56 ∨ kd = 57 by omega) with rfl | rfl | rfl | rfl | rfl | rfl | rfl | rfl | rfl | rfl | rfl | rfl | rfl | rfl | rfl | rfl | rfl | rfl | rfl | rfl | rfl | rfl | rfl | rfl | rfl | rfl | rfl | rfl | rfl | rfl | rfl | rfl | rfl | rfl | rfl | rfl | rfl | rfl | rfl | rfl | rfl | rfl | rfl | rfl | rfl | rfl | rfl | rfl | rfl | rfl | rfl | rfl | rfl | rfl | rfl | rfl | rfl | rfl
  · have hi : i < 1 := hi
    obtain rfl : i = 0 := by omega
    exact as_0 (i := 0) hX
  · have hi : i < 71 := hi
    rcases Nat.eq_zero_or_pos i with rfl | z
    · exact as_1z (i := 0) hX
    · by_cases z2 : i ≤ 40
      · obtain ⟨w, rfl⟩ : ∃ w, i = w + 1 := ⟨i - 1, by omega⟩
        exact as_1w (by omega) (hW w (by omega))
      · obtain ⟨m, r, hr, rfl⟩ : ∃ m r, r < 3 ∧ i = 41 + 3 * m + r := ⟨(i - 41) / 3, (i - 41) % 3, by omega, by omega⟩
        rcases (show r = 0 ∨ r = 1 ∨ r = 2 by omega) with rfl | rfl | rfl
        · exact as_1_0 (by omega) (hM m (by omega))
        · exact as_1_1 (by omega) (hM m (by omega))
        · exact as_1_2 (by omega) (hM m (by omega))
  · have hi : i < 71 := hi
    rcases Nat.eq_zero_or_pos i with rfl | z
    · exact as_2z (i := 0) hX
    · by_cases z2 : i ≤ 40
      · obtain ⟨w, rfl⟩ : ∃ w, i = w + 1 := ⟨i - 1, by omega⟩
        exact as_2w (by omega) (hW w (by omega))
      · obtain ⟨m, r, hr, rfl⟩ : ∃ m r, r < 3 ∧ i = 41 + 3 * m + r := ⟨(i - 41) / 3, (i - 41) % 3, by omega, by omega⟩
        rcases (show r = 0 ∨ r = 1 ∨ r = 2 by omega) with rfl | rfl | rfl
        · exact as_2_0 (by omega) (hM m (by omega))
        · exact as_2_1 (by omega) (hM m (by omega))
        · exact as_2_2 (by omega) (hM m (by omega))
  · have hi : i < 71 := hi
    rcases Nat.eq_zero_or_pos i with rfl | z
    · exact as_3z (i := 0) hX
    · by_cases z2 : i ≤ 40
      · obtain ⟨w, rfl⟩ : ∃ w, i = w + 1 := ⟨i - 1, by omega⟩
        exact as_3w (by omega) (hW w (by omega))
      · obtain ⟨m, r, hr, rfl⟩ : ∃ m r, r < 3 ∧ i = 41 + 3 * m + r := ⟨(i - 41) / 3, (i - 41) % 3, by omega, by omega⟩
        rcases (show r = 0 ∨ r = 1 ∨ r = 2 by omega) with rfl | rfl | rfl
        · exact as_3_0 (by omega) (hM m (by omega))
        · exact as_3_1 (by omega) (hM m (by omega))
        · exact as_3_2 (by omega) (hM m (by omega))
  · have hi : i < 41 := hi
    by_cases z : i = 40
    · subst z; exact as_4z (i := 0) hX
    · obtain ⟨m, r, hr, rfl⟩ : ∃ m r, r < 5 ∧ i = 5 * m + r := ⟨i / 5, i % 5, by omega, by omega⟩
      rcases (show r = 0 ∨ r = 1 ∨ r = 2 ∨ r = 3 ∨ r = 4 by omega) with rfl | rfl | rfl | rfl | rfl
      · exact as_4_0 (by omega) (hK m (by omega))
      · exact as_4_1 (by omega) (hK m (by omega))
      · exact as_4_2 (by omega) (hK m (by omega))
      · exact as_4_3 (by omega) (hK m (by omega))
      · exact as_4_4 (by omega) (hK m (by omega))
  · have hi : i < 41 := hi
    by_cases z : i = 40
    · subst z; exact as_5z (i := 0) hX
    · obtain ⟨m, r, hr, rfl⟩ : ∃ m r, r < 5 ∧ i = 5 * m + r := ⟨i / 5, i % 5, by omega, by omega⟩
      rcases (show r = 0 ∨ r = 1 ∨ r = 2 ∨ r = 3 ∨ r = 4 by omega) with rfl | rfl | rfl | rfl | rfl
      · exact as_5_0 (by omega) (hK m (by omega))
      · exact as_5_1 (by omega) (hK m (by omega))
      · exact as_5_2 (by omega) (hK m (by omega))
      · exact as_5_3 (by omega) (hK m (by omega))
      · exact as_5_4 (by omega) (hK m (by omega))
  · have hi : i < 41 := hi
    by_cases z : i = 40
    · subst z; exact as_6z (i := 0) hX
    · obtain ⟨m, r, hr, rfl⟩ : ∃ m r, r < 5 ∧ i = 5 * m + r := ⟨i / 5, i % 5, by omega, by omega⟩
      rcases (show r = 0 ∨ r = 1 ∨ r = 2 ∨ r = 3 ∨ r = 4 by omega) with rfl | rfl | rfl | rfl | rfl
      · exact as_6_0 (by omega) (hK m (by omega))
      · exact as_6_1 (by omega) (hK m (by omega))
      · exact as_6_2 (by omega) (hK m (by omega))
      · exact as_6_3 (by omega) (hK m (by omega))
      · exact as_6_4 (by omega) (hK m (by omega))
  · exact as_7 hi (hK i hi)
  · exact as_8 hi (hK i hi)
  · exact as_9 hi (hM i hi)
  · exact as_10 hi (hM i hi)
  · exact as_11 hi (hM i hi)
  · exact as_12 hi (hW i hi)
  · exact as_13 hi (hW i hi)
  · exact as_14 hi (hW i hi)
  · exact as_15 hi (hW i hi)
  · have hi : i < 2 := hi
    rcases (show i = 0 ∨ i = 1 by omega) with rfl | rfl
    · exact as_16_0 (i := 0) hX
    · exact as_16_1 (i := 0) hX
  · have hi : i < 2 := hi
    rcases (show i = 0 ∨ i = 1 by omega) with rfl | rfl
    · exact as_17_0 (i := 0) hX
    · exact as_17_1 (i := 0) hX
  · have hi : i < 2 := hi
    rcases (show i = 0 ∨ i = 1 by omega) with rfl | rfl
    · exact as_18_0 (i := 0) hX
    · exact as_18_1 (i := 0) hX
  · have hi : i < 2 := hi
    rcases (show i = 0 ∨ i = 1 by omega) with rfl | rfl
    · exact as_19_0 (i := 0) hX
    · exact as_19_1 (i := 0) hX
  · have hi : i < 2 := hi
    rcases (show i = 0 ∨ i = 1 by omega) with rfl | rfl
    · exact as_20_0 (i := 0) hX
    · exact as_20_1 (i := 0) hX
  · have hi : i < 1 := hi
    obtain rfl : i = 0 := by omega
    exact as_21 (i := 0) hX
  · have hi : i < 1 := hi
    obtain rfl : i = 0 := by omega
    exact as_22 (i := 0) hX
  · have hi : i < 1 := hi
    obtain rfl : i = 0 := by omega
    exact as_23 (i := 0) hX
  · have hi : i < 1 := hi
    obtain rfl : i = 0 := by omega
    exact as_24 (i := 0) hX
  · have hi : i < 1 := hi
    obtain rfl : i = 0 := by omega
    exact as_25 (i := 0) hX
  · have hi : i < 1 := hi
    obtain rfl : i = 0 := by omega
    exact as_26 (i := 0) hR
  · have hi : i < 1 := hi
    obtain rfl : i = 0 := by omega
    exact as_27 (i := 0) hR
  · have hi : i < 1 := hi
    obtain rfl : i = 0 := by omega
    exact as_28 (i := 0) hR
  · have hi : i < 1 := hi
    obtain rfl : i = 0 := by omega
    exact as_29 (i := 0) hR
  · have hi : i < 1 := hi
    obtain rfl : i = 0 := by omega
    exact as_30 (i := 0) hR
  · have hi : i < 1 := hi
    obtain rfl : i = 0 := by omega
    exact as_31 (i := 0) hR
  · have hi : i < 1 := hi
    obtain rfl : i = 0 := by omega
    exact as_32 (i := 0) hR
  · have hi : i < 1 := hi
    obtain rfl : i = 0 := by omega
    exact as_33 (i := 0) hR
  · have hi : i < 1 := hi
    obtain rfl : i = 0 := by omega
    exact as_34 (i := 0) hR
  · have hi : i < 1 := hi
    obtain rfl : i = 0 := by omega
    exact as_35 (i := 0) hR
  · have hi : i < 1 := hi
    obtain rfl : i = 0 := by omega
    exact as_36 (i := 0) hR
  · have hi : i < 1 := hi
    obtain rfl : i = 0 := by omega
    exact as_37 (i := 0) hR
  · have hi : i < 1 := hi
    obtain rfl : i = 0 := by omega
    exact as_38 (i := 0) hR
  · have hi : i < 1 := hi
    obtain rfl : i = 0 := by omega
    exact as_39 (i := 0) hR
  · have hi : i < 1 := hi
    obtain rfl : i = 0 := by omega
    exact as_40 (i := 0) hR
  · have hi : i < 1 := hi
    obtain rfl : i = 0 := by omega
    exact as_41 (i := 0) hR
  · have hi : i < 1 := hi
    obtain rfl : i = 0 := by omega
    exact as_42 (i := 0) hR
  · have hi : i < 1 := hi
    obtain rfl : i = 0 := by omega
    exact as_43 (i := 0) hR
  · have hi : i < 1 := hi
    obtain rfl : i = 0 := by omega
    exact as_44 (i := 0) hR
  · have hi : i < 1 := hi
    obtain rfl : i = 0 := by omega
    exact as_45 (i := 0) hR
  · have hi : i < 1 := hi
    obtain rfl : i = 0 := by omega
    exact as_46 (i := 0) hR
  · have hi : i < 1 := hi
    obtain rfl : i = 0 := by omega
    exact as_47 (i := 0) hR
  · have hi : i < 1 := hi
    obtain rfl : i = 0 := by omega
    exact as_48 (i := 0) hR
  · have hi : i < 1 := hi
    obtain rfl : i = 0 := by omega
    exact as_49 (i := 0) hR
  · have hi : i < 1 := hi
    obtain rfl : i = 0 := by omega
    exact as_50 (i := 0) hR
  · have hi : i < 1 := hi
    obtain rfl : i = 0 := by omega
    exact as_51 (i := 0) hR
  · have hi : i < 1 := hi
    obtain rfl : i = 0 := by omega
    exact as_52 (i := 0) hR
  · have hi : i < 1 := hi
    obtain rfl : i = 0 := by omega
    exact as_53 (i := 0) hR
  · have hi : i < 1 := hi
    obtain rfl : i = 0 := by omega
    exact as_54 (i := 0) hR
  · have hi : i < 1 := hi
    obtain rfl : i = 0 := by omega
    exact as_55 (i := 0) hR
  · have hi : i < 1 := hi
    obtain rfl : i = 0 := by omega
    exact h56
  · have hi : i < 1 := hi
    obtain rfl : i = 0 := by omega
    exact h57