theorem as_0 {dC : Nat → ClassId} {dI : Nat → Nat → Nat} {cA : Nat → ClassId} {N : Nat} {H : Heap} {i : Nat} (h : va_P (dC, dI) vwCl (fin_X6_init ((dC, dI), cA, fun kd i => N + off kd i) N (N + 1)) H) : va_at (dC, dI) vwCl (N + off 0 (0), ent ((dC, dI), cA, fun kd i => N + off kd i) G0 0 (0)) H := by
  have h0 := h 0 _ rfl
  refine at_e h0 (Prod.ext ?_ (congrArg Sum.inr (Prod.ext rfl ?_)))
  · show N + (0) = N
    omega
  · show ([.ref (N + (offP (0))), .ref (N + (offT (40))), .ref (N + (7)), .ref (N + (8)), .ref (N + (9)), .ref (N + (10)), .ref (N + (11)), .ref (N + (12 + 5 * (0))), .ref (N + (12 + 5 * (1))), .int 0, .int 0, .int 0, .int 0, .int 12, .int 0, .int 0] : List Value) = [.ref (N + 1), .ref (N + 1 + 3), .ref (N + 1 + 6), .ref (N + 1 + 7), .ref (N + 1 + 8), .ref (N + 1 + 9), .ref (N + 1 + 10), .ref (N + 1 + 11), .ref (N + 1 + 16), .int 0, .int 0, .int 0, .int 0, .int 12, .int 0, .int 0]
    rw [show N + (offP (0)) = (N + 1) from by unfold offP; (repeat' split) <;> omega, show N + (offT (40)) = (N + 1 + 3) from by unfold offT; (repeat' split) <;> omega, show N + (7) = (N + 1 + 6) from by omega, show N + (8) = (N + 1 + 7) from by omega, show N + (9) = (N + 1 + 8) from by omega, show N + (10) = (N + 1 + 9) from by omega, show N + (11) = (N + 1 + 10) from by omega, show N + (12 + 5 * (0)) = (N + 1 + 11) from by omega, show N + (12 + 5 * (1)) = (N + 1 + 16) from by omega]
theorem as_1z {dC : Nat → ClassId} {dI : Nat → Nat → Nat} {cA : Nat → ClassId} {N : Nat} {H : Heap} {i : Nat} (h : va_P (dC, dI) vwCl (fin_X6_init ((dC, dI), cA, fun kd i => N + off kd i) N (N + 1)) H) : va_at (dC, dI) vwCl (N + off 1 (0), ent ((dC, dI), cA, fun kd i => N + off kd i) G0 1 (0)) H := by
  have h0 := h 1 _ rfl
  refine at_e h0 (Prod.ext ?_ (congrArg Sum.inr (Prod.ext rfl ?_)))
  · show N + (offP (0)) = N + 1
    unfold offP; (repeat' split) <;> omega
  · show ([.ref (N + (offP (0) + 1)), .ref (N + (offP (0) + 2)), .int 0] : List Value) = [.ref (N + 1 + 1), .ref (N + 1 + 2), .int 0]
    rw [show N + (offP (0) + 1) = (N + 1 + 1) from by unfold offP; (repeat' split) <;> omega, show N + (offP (0) + 2) = (N + 1 + 2) from by unfold offP; (repeat' split) <;> omega]
theorem as_2z {dC : Nat → ClassId} {dI : Nat → Nat → Nat} {cA : Nat → ClassId} {N : Nat} {H : Heap} {i : Nat} (h : va_P (dC, dI) vwCl (fin_X6_init ((dC, dI), cA, fun kd i => N + off kd i) N (N + 1)) H) : va_at (dC, dI) vwCl (N + off 2 (0), ent ((dC, dI), cA, fun kd i => N + off kd i) G0 2 (0)) H := by
  refine at_e (h 2 _ rfl) (Prod.ext ?_ rfl)
  show N + (offP (0) + 1) = N + 1 + 1
  unfold offP; (repeat' split) <;> omega
theorem as_3z {dC : Nat → ClassId} {dI : Nat → Nat → Nat} {cA : Nat → ClassId} {N : Nat} {H : Heap} {i : Nat} (h : va_P (dC, dI) vwCl (fin_X6_init ((dC, dI), cA, fun kd i => N + off kd i) N (N + 1)) H) : va_at (dC, dI) vwCl (N + off 3 (0), ent ((dC, dI), cA, fun kd i => N + off kd i) G0 3 (0)) H := by
  refine at_e (h 3 _ rfl) (Prod.ext ?_ rfl)
  show N + (offP (0) + 2) = N + 1 + 2
  unfold offP; (repeat' split) <;> omega
theorem as_4z {dC : Nat → ClassId} {dI : Nat → Nat → Nat} {cA : Nat → ClassId} {N : Nat} {H : Heap} {i : Nat} (h : va_P (dC, dI) vwCl (fin_X6_init ((dC, dI), cA, fun kd i => N + off kd i) N (N + 1)) H) : va_at (dC, dI) vwCl (N + off 4 (40), ent ((dC, dI), cA, fun kd i => N + off kd i) G0 4 (40)) H := by
  have h0 := h 4 _ rfl
  refine at_e h0 (Prod.ext ?_ (congrArg Sum.inr (Prod.ext rfl ?_)))
  · show N + (offT (40)) = N + 1 + 3
    unfold offT; (repeat' split) <;> omega
  · show ([.ref (N + (offT (40) + 1)), .ref (N + (offT (40) + 2)), .int 0, .int 0, .int 0] : List Value) = [.ref (N + 1 + 4), .ref (N + 1 + 5), .int 0, .int 0, .int 0]
    rw [show N + (offT (40) + 1) = (N + 1 + 4) from by unfold offT; (repeat' split) <;> omega, show N + (offT (40) + 2) = (N + 1 + 5) from by unfold offT; (repeat' split) <;> omega]
theorem as_5z {dC : Nat → ClassId} {dI : Nat → Nat → Nat} {cA : Nat → ClassId} {N : Nat} {H : Heap} {i : Nat} (h : va_P (dC, dI) vwCl (fin_X6_init ((dC, dI), cA, fun kd i => N + off kd i) N (N + 1)) H) : va_at (dC, dI) vwCl (N + off 5 (40), ent ((dC, dI), cA, fun kd i => N + off kd i) G0 5 (40)) H := by
  refine at_e (h 5 _ rfl) (Prod.ext ?_ rfl)
  show N + (offT (40) + 1) = N + 1 + 4
  unfold offT; (repeat' split) <;> omega
theorem as_6z {dC : Nat → ClassId} {dI : Nat → Nat → Nat} {cA : Nat → ClassId} {N : Nat} {H : Heap} {i : Nat} (h : va_P (dC, dI) vwCl (fin_X6_init ((dC, dI), cA, fun kd i => N + off kd i) N (N + 1)) H) : va_at (dC, dI) vwCl (N + off 6 (40), ent ((dC, dI), cA, fun kd i => N + off kd i) G0 6 (40)) H := by
  refine at_e (h 6 _ rfl) (Prod.ext ?_ rfl)
  show N + (offT (40) + 2) = N + 1 + 5
  unfold offT; (repeat' split) <;> omega
theorem as_21 {dC : Nat → ClassId} {dI : Nat → Nat → Nat} {cA : Nat → ClassId} {N : Nat} {H : Heap} {i : Nat} (h : va_P (dC, dI) vwCl (fin_X6_init ((dC, dI), cA, fun kd i => N + off kd i) N (N + 1)) H) : va_at (dC, dI) vwCl (N + off 21 (0), ent ((dC, dI), cA, fun kd i => N + off kd i) G0 21 (0)) H := by
  have h0 := h 7 _ rfl
  have e0 : N + (7) = N + 1 + 6 := by omega
  show va_at (dC, dI) vwCl (N + (7), .inl (cA 5, 8, .inr (.inr (.inr (.inr (fun j => some (N + (22 + 17 * (j))))))))) H
  rw [e0]
  refine at_q h0 (fun j hj => ?_)
  show some (N + (22 + 17 * (j))) = kf (N + 1 + 21) 17 8 j
  unfold kf
  rw [if_pos hj]
  exact congrArg some (by omega)
theorem as_22 {dC : Nat → ClassId} {dI : Nat → Nat → Nat} {cA : Nat → ClassId} {N : Nat} {H : Heap} {i : Nat} (h : va_P (dC, dI) vwCl (fin_X6_init ((dC, dI), cA, fun kd i => N + off kd i) N (N + 1)) H) : va_at (dC, dI) vwCl (N + off 22 (0), ent ((dC, dI), cA, fun kd i => N + off kd i) G0 22 (0)) H := by
  have h0 := h 8 _ rfl
  have e0 : N + (8) = N + 1 + 7 := by omega
  show va_at (dC, dI) vwCl (N + (8), .inl (cA 6, 10, .inr (.inr (.inr (.inr (fun j => some (N + (158 + 12 * (j))))))))) H
  rw [e0]
  refine at_q h0 (fun j hj => ?_)
  show some (N + (158 + 12 * (j))) = kf (N + 1 + 157) 12 10 j
  unfold kf
  rw [if_pos hj]
  exact congrArg some (by omega)
theorem as_23 {dC : Nat → ClassId} {dI : Nat → Nat → Nat} {cA : Nat → ClassId} {N : Nat} {H : Heap} {i : Nat} (h : va_P (dC, dI) vwCl (fin_X6_init ((dC, dI), cA, fun kd i => N + off kd i) N (N + 1)) H) : va_at (dC, dI) vwCl (N + off 23 (0), ent ((dC, dI), cA, fun kd i => N + off kd i) G0 23 (0)) H := by
  have h0 := h 9 _ rfl
  have e0 : N + (9) = N + 1 + 8 := by omega
  show va_at (dC, dI) vwCl (N + (9), .inl (cA 7, 40, .inr (.inr (.inr (.inr (fun j => some (N + (278 + 7 * (j))))))))) H
  rw [e0]
  refine at_q h0 (fun j hj => ?_)
  show some (N + (278 + 7 * (j))) = kf (N + 1 + 277) 7 40 j
  unfold kf
  rw [if_pos hj]
  exact congrArg some (by omega)
theorem as_24 {dC : Nat → ClassId} {dI : Nat → Nat → Nat} {cA : Nat → ClassId} {N : Nat} {H : Heap} {i : Nat} (h : va_P (dC, dI) vwCl (fin_X6_init ((dC, dI), cA, fun kd i => N + off kd i) N (N + 1)) H) : va_at (dC, dI) vwCl (N + off 24 (0), ent ((dC, dI), cA, fun kd i => N + off kd i) G0 24 (0)) H := by
  refine at_e (h 10 _ rfl) (Prod.ext ?_ rfl)
  show N + (10) = N + 1 + 9
  omega
theorem as_25 {dC : Nat → ClassId} {dI : Nat → Nat → Nat} {cA : Nat → ClassId} {N : Nat} {H : Heap} {i : Nat} (h : va_P (dC, dI) vwCl (fin_X6_init ((dC, dI), cA, fun kd i => N + off kd i) N (N + 1)) H) : va_at (dC, dI) vwCl (N + off 25 (0), ent ((dC, dI), cA, fun kd i => N + off kd i) G0 25 (0)) H := by
  refine at_e (h 11 _ rfl) (Prod.ext ?_ rfl)
  show N + (11) = N + 1 + 10
  omega
theorem as_16_0 {dC : Nat → ClassId} {dI : Nat → Nat → Nat} {cA : Nat → ClassId} {N : Nat} {H : Heap} {i : Nat} (h : va_P (dC, dI) vwCl (fin_X6_init ((dC, dI), cA, fun kd i => N + off kd i) N (N + 1)) H) : va_at (dC, dI) vwCl (N + off 16 (0), ent ((dC, dI), cA, fun kd i => N + off kd i) G0 16 (0)) H := by
  have h0 := h 12 _ rfl
  refine at_e h0 (Prod.ext ?_ (congrArg Sum.inr (Prod.ext rfl ?_)))
  · show N + (12 + 5 * (0)) = N + 1 + 11
    omega
  · show ([.ref (N + (13 + 5 * (0))), .ref (N + (14 + 5 * (0))), .ref (N + (15 + 5 * (0))), .ref (N + (16 + 5 * (0))), .int 0, .int 0, .int 0, .int 0, .int 0] : List Value) = [.ref (N + 1 + 12), .ref (N + 1 + 13), .ref (N + 1 + 14), .ref (N + 1 + 15), .int 0, .int 0, .int 0, .int 0, .int 0]
    rw [show N + (13 + 5 * (0)) = (N + 1 + 12) from by omega, show N + (14 + 5 * (0)) = (N + 1 + 13) from by omega, show N + (15 + 5 * (0)) = (N + 1 + 14) from by omega, show N + (16 + 5 * (0)) = (N + 1 + 15) from by omega]
theorem as_17_0 {dC : Nat → ClassId} {dI : Nat → Nat → Nat} {cA : Nat → ClassId} {N : Nat} {H : Heap} {i : Nat} (h : va_P (dC, dI) vwCl (fin_X6_init ((dC, dI), cA, fun kd i => N + off kd i) N (N + 1)) H) : va_at (dC, dI) vwCl (N + off 17 (0), ent ((dC, dI), cA, fun kd i => N + off kd i) G0 17 (0)) H := by
  refine at_e (h 13 _ rfl) (Prod.ext ?_ rfl)
  show N + (13 + 5 * (0)) = N + 1 + 12
  omega
theorem as_18_0 {dC : Nat → ClassId} {dI : Nat → Nat → Nat} {cA : Nat → ClassId} {N : Nat} {H : Heap} {i : Nat} (h : va_P (dC, dI) vwCl (fin_X6_init ((dC, dI), cA, fun kd i => N + off kd i) N (N + 1)) H) : va_at (dC, dI) vwCl (N + off 18 (0), ent ((dC, dI), cA, fun kd i => N + off kd i) G0 18 (0)) H := by
  refine at_e (h 14 _ rfl) (Prod.ext ?_ rfl)
  show N + (14 + 5 * (0)) = N + 1 + 13
  omega
theorem as_19_0 {dC : Nat → ClassId} {dI : Nat → Nat → Nat} {cA : Nat → ClassId} {N : Nat} {H : Heap} {i : Nat} (h : va_P (dC, dI) vwCl (fin_X6_init ((dC, dI), cA, fun kd i => N + off kd i) N (N + 1)) H) : va_at (dC, dI) vwCl (N + off 19 (0), ent ((dC, dI), cA, fun kd i => N + off kd i) G0 19 (0)) H := by
  refine at_e (h 15 _ rfl) (Prod.ext ?_ rfl)
  show N + (15 + 5 * (0)) = N + 1 + 14
  omega
theorem as_20_0 {dC : Nat → ClassId} {dI : Nat → Nat → Nat} {cA : Nat → ClassId} {N : Nat} {H : Heap} {i : Nat} (h : va_P (dC, dI) vwCl (fin_X6_init ((dC, dI), cA, fun kd i => N + off kd i) N (N + 1)) H) : va_at (dC, dI) vwCl (N + off 20 (0), ent ((dC, dI), cA, fun kd i => N + off kd i) G0 20 (0)) H := by
  refine at_e (h 16 _ rfl) (Prod.ext ?_ rfl)
  show N + (16 + 5 * (0)) = N + 1 + 15
  omega
theorem as_16_1 {dC : Nat → ClassId} {dI : Nat → Nat → Nat} {cA : Nat → ClassId} {N : Nat} {H : Heap} {i : Nat} (h : va_P (dC, dI) vwCl (fin_X6_init ((dC, dI), cA, fun kd i => N + off kd i) N (N + 1)) H) : va_at (dC, dI) vwCl (N + off 16 (1), ent ((dC, dI), cA, fun kd i => N + off kd i) G0 16 (1)) H := by
  have h0 := h 17 _ rfl
  refine at_e h0 (Prod.ext ?_ (congrArg Sum.inr (Prod.ext rfl ?_)))
  · show N + (12 + 5 * (1)) = N + 1 + 16
    omega
  · show ([.ref (N + (13 + 5 * (1))), .ref (N + (14 + 5 * (1))), .ref (N + (15 + 5 * (1))), .ref (N + (16 + 5 * (1))), .int 0, .int 0, .int 0, .int 0, .int 0] : List Value) = [.ref (N + 1 + 17), .ref (N + 1 + 18), .ref (N + 1 + 19), .ref (N + 1 + 20), .int 0, .int 0, .int 0, .int 0, .int 0]
    rw [show N + (13 + 5 * (1)) = (N + 1 + 17) from by omega, show N + (14 + 5 * (1)) = (N + 1 + 18) from by omega, show N + (15 + 5 * (1)) = (N + 1 + 19) from by omega, show N + (16 + 5 * (1)) = (N + 1 + 20) from by omega]
theorem as_17_1 {dC : Nat → ClassId} {dI : Nat → Nat → Nat} {cA : Nat → ClassId} {N : Nat} {H : Heap} {i : Nat} (h : va_P (dC, dI) vwCl (fin_X6_init ((dC, dI), cA, fun kd i => N + off kd i) N (N + 1)) H) : va_at (dC, dI) vwCl (N + off 17 (1), ent ((dC, dI), cA, fun kd i => N + off kd i) G0 17 (1)) H := by
  refine at_e (h 18 _ rfl) (Prod.ext ?_ rfl)
  show N + (13 + 5 * (1)) = N + 1 + 17
  omega
theorem as_18_1 {dC : Nat → ClassId} {dI : Nat → Nat → Nat} {cA : Nat → ClassId} {N : Nat} {H : Heap} {i : Nat} (h : va_P (dC, dI) vwCl (fin_X6_init ((dC, dI), cA, fun kd i => N + off kd i) N (N + 1)) H) : va_at (dC, dI) vwCl (N + off 18 (1), ent ((dC, dI), cA, fun kd i => N + off kd i) G0 18 (1)) H := by
  refine at_e (h 19 _ rfl) (Prod.ext ?_ rfl)
  show N + (14 + 5 * (1)) = N + 1 + 18
  omega
theorem as_19_1 {dC : Nat → ClassId} {dI : Nat → Nat → Nat} {cA : Nat → ClassId} {N : Nat} {H : Heap} {i : Nat} (h : va_P (dC, dI) vwCl (fin_X6_init ((dC, dI), cA, fun kd i => N + off kd i) N (N + 1)) H) : va_at (dC, dI) vwCl (N + off 19 (1), ent ((dC, dI), cA, fun kd i => N + off kd i) G0 19 (1)) H := by
  refine at_e (h 20 _ rfl) (Prod.ext ?_ rfl)
  show N + (15 + 5 * (1)) = N + 1 + 19
  omega
theorem as_20_1 {dC : Nat → ClassId} {dI : Nat → Nat → Nat} {cA : Nat → ClassId} {N : Nat} {H : Heap} {i : Nat} (h : va_P (dC, dI) vwCl (fin_X6_init ((dC, dI), cA, fun kd i => N + off kd i) N (N + 1)) H) : va_at (dC, dI) vwCl (N + off 20 (1), ent ((dC, dI), cA, fun kd i => N + off kd i) G0 20 (1)) H := by
  refine at_e (h 21 _ rfl) (Prod.ext ?_ rfl)
  show N + (16 + 5 * (1)) = N + 1 + 20
  omega
theorem as_7 {dC : Nat → ClassId} {dI : Nat → Nat → Nat} {cA : Nat → ClassId} {N : Nat} {H : Heap} {i : Nat} (hi : i < 8) (h : va_P (dC, dI) vwCl (fin_X0_init ((dC, dI), cA, fun kd i => N + off kd i) (N + 22 + 17 * i) (N + 22 + 17 * i + 1)) H) : va_at (dC, dI) vwCl (N + off 7 (i), ent ((dC, dI), cA, fun kd i => N + off kd i) G0 7 (i)) H := by
  have h0 := h 0 _ rfl
  refine at_e h0 (Prod.ext ?_ (congrArg Sum.inr (Prod.ext rfl ?_)))
  · show N + (22 + 17 * (i)) = (N + 22 + 17 * i)
    omega
  · show ([.ref (N + (23 + 17 * (i))), .int 0, .int 0] : List Value) = [.ref (N + 22 + 17 * i + 1), .int 0, .int 0]
    rw [show N + (23 + 17 * (i)) = (N + 22 + 17 * i + 1) from by omega]
theorem as_8 {dC : Nat → ClassId} {dI : Nat → Nat → Nat} {cA : Nat → ClassId} {N : Nat} {H : Heap} {i : Nat} (hi : i < 8) (h : va_P (dC, dI) vwCl (fin_X0_init ((dC, dI), cA, fun kd i => N + off kd i) (N + 22 + 17 * i) (N + 22 + 17 * i + 1)) H) : va_at (dC, dI) vwCl (N + off 8 (i), ent ((dC, dI), cA, fun kd i => N + off kd i) G0 8 (i)) H := by
  have h0 := h 1 _ rfl
  have e0 : N + (23 + 17 * (i)) = N + 22 + 17 * i + 1 := by omega
  show va_at (dC, dI) vwCl (N + (23 + 17 * (i)), .inl (cA 9, 5, .inr (.inr (.inr (.inr (fun j => some (N + (offT (5 * i + j))))))))) H
  rw [e0]
  refine at_q h0 (fun j hj => ?_)
  rcases (show j = 0 ∨ j = 1 ∨ j = 2 ∨ j = 3 ∨ j = 4 by omega) with rfl | rfl | rfl | rfl | rfl
  · show some (N + (offT (5 * i + 0))) = some (N + 22 + 17 * i + 1 + 1)
    exact congrArg some (by unfold offT; rw [if_neg (by omega)]; omega)
  · show some (N + (offT (5 * i + 1))) = some (N + 22 + 17 * i + 1 + 4)
    exact congrArg some (by unfold offT; rw [if_neg (by omega)]; omega)
  · show some (N + (offT (5 * i + 2))) = some (N + 22 + 17 * i + 1 + 7)
    exact congrArg some (by unfold offT; rw [if_neg (by omega)]; omega)
  · show some (N + (offT (5 * i + 3))) = some (N + 22 + 17 * i + 1 + 10)
    exact congrArg some (by unfold offT; rw [if_neg (by omega)]; omega)
  · show some (N + (offT (5 * i + 4))) = some (N + 22 + 17 * i + 1 + 13)
    exact congrArg some (by unfold offT; rw [if_neg (by omega)]; omega)
theorem as_4_0 {dC : Nat → ClassId} {dI : Nat → Nat → Nat} {cA : Nat → ClassId} {N : Nat} {H : Heap} {i : Nat} (hi : i < 8) (h : va_P (dC, dI) vwCl (fin_X0_init ((dC, dI), cA, fun kd i => N + off kd i) (N + 22 + 17 * i) (N + 22 + 17 * i + 1)) H) : va_at (dC, dI) vwCl (N + off 4 (5 * i + 0), ent ((dC, dI), cA, fun kd i => N + off kd i) G0 4 (5 * i + 0)) H := by
  have h0 := h 2 _ rfl
  refine at_e h0 (Prod.ext ?_ (congrArg Sum.inr (Prod.ext rfl ?_)))
  · show N + (offT (5 * i + 0)) = N + 22 + 17 * i + 1 + 1
    unfold offT; (repeat' split) <;> omega
  · show ([.ref (N + (offT (5 * i + 0) + 1)), .ref (N + (offT (5 * i + 0) + 2)), .int 0, .int 0, .int 0] : List Value) = [.ref (N + 22 + 17 * i + 1 + 2), .ref (N + 22 + 17 * i + 1 + 3), .int 0, .int 0, .int 0]
    rw [show N + (offT (5 * i + 0) + 1) = (N + 22 + 17 * i + 1 + 2) from by unfold offT; (repeat' split) <;> omega, show N + (offT (5 * i + 0) + 2) = (N + 22 + 17 * i + 1 + 3) from by unfold offT; (repeat' split) <;> omega]
theorem as_5_0 {dC : Nat → ClassId} {dI : Nat → Nat → Nat} {cA : Nat → ClassId} {N : Nat} {H : Heap} {i : Nat} (hi : i < 8) (h : va_P (dC, dI) vwCl (fin_X0_init ((dC, dI), cA, fun kd i => N + off kd i) (N + 22 + 17 * i) (N + 22 + 17 * i + 1)) H) : va_at (dC, dI) vwCl (N + off 5 (5 * i + 0), ent ((dC, dI), cA, fun kd i => N + off kd i) G0 5 (5 * i + 0)) H := by
  refine at_e (h 3 _ rfl) (Prod.ext ?_ rfl)
  show N + (offT (5 * i + 0) + 1) = N + 22 + 17 * i + 1 + 2
  unfold offT; (repeat' split) <;> omega
theorem as_6_0 {dC : Nat → ClassId} {dI : Nat → Nat → Nat} {cA : Nat → ClassId} {N : Nat} {H : Heap} {i : Nat} (hi : i < 8) (h : va_P (dC, dI) vwCl (fin_X0_init ((dC, dI), cA, fun kd i => N + off kd i) (N + 22 + 17 * i) (N + 22 + 17 * i + 1)) H) : va_at (dC, dI) vwCl (N + off 6 (5 * i + 0), ent ((dC, dI), cA, fun kd i => N + off kd i) G0 6 (5 * i + 0)) H := by
  refine at_e (h 4 _ rfl) (Prod.ext ?_ rfl)
  show N + (offT (5 * i + 0) + 2) = N + 22 + 17 * i + 1 + 3
  unfold offT; (repeat' split) <;> omega
theorem as_4_1 {dC : Nat → ClassId} {dI : Nat → Nat → Nat} {cA : Nat → ClassId} {N : Nat} {H : Heap} {i : Nat} (hi : i < 8) (h : va_P (dC, dI) vwCl (fin_X0_init ((dC, dI), cA, fun kd i => N + off kd i) (N + 22 + 17 * i) (N + 22 + 17 * i + 1)) H) : va_at (dC, dI) vwCl (N + off 4 (5 * i + 1), ent ((dC, dI), cA, fun kd i => N + off kd i) G0 4 (5 * i + 1)) H := by
  have h0 := h 5 _ rfl
  refine at_e h0 (Prod.ext ?_ (congrArg Sum.inr (Prod.ext rfl ?_)))
  · show N + (offT (5 * i + 1)) = N + 22 + 17 * i + 1 + 4
    unfold offT; (repeat' split) <;> omega
  · show ([.ref (N + (offT (5 * i + 1) + 1)), .ref (N + (offT (5 * i + 1) + 2)), .int 0, .int 0, .int 0] : List Value) = [.ref (N + 22 + 17 * i + 1 + 5), .ref (N + 22 + 17 * i + 1 + 6), .int 0, .int 0, .int 0]
    rw [show N + (offT (5 * i + 1) + 1) = (N + 22 + 17 * i + 1 + 5) from by unfold offT; (repeat' split) <;> omega, show N + (offT (5 * i + 1) + 2) = (N + 22 + 17 * i + 1 + 6) from by unfold offT; (repeat' split) <;> omega]
theorem as_5_1 {dC : Nat → ClassId} {dI : Nat → Nat → Nat} {cA : Nat → ClassId} {N : Nat} {H : Heap} {i : Nat} (hi : i < 8) (h : va_P (dC, dI) vwCl (fin_X0_init ((dC, dI), cA, fun kd i => N + off kd i) (N + 22 + 17 * i) (N + 22 + 17 * i + 1)) H) : va_at (dC, dI) vwCl (N + off 5 (5 * i + 1), ent ((dC, dI), cA, fun kd i => N + off kd i) G0 5 (5 * i + 1)) H := by
  refine at_e (h 6 _ rfl) (Prod.ext ?_ rfl)
  show N + (offT (5 * i + 1) + 1) = N + 22 + 17 * i + 1 + 5
  unfold offT; (repeat' split) <;> omega
theorem as_6_1 {dC : Nat → ClassId} {dI : Nat → Nat → Nat} {cA : Nat → ClassId} {N : Nat} {H : Heap} {i : Nat} (hi : i < 8) (h : va_P (dC, dI) vwCl (fin_X0_init ((dC, dI), cA, fun kd i => N + off kd i) (N + 22 + 17 * i) (N + 22 + 17 * i + 1)) H) : va_at (dC, dI) vwCl (N + off 6 (5 * i + 1), ent ((dC, dI), cA, fun kd i => N + off kd i) G0 6 (5 * i + 1)) H := by
  refine at_e (h 7 _ rfl) (Prod.ext ?_ rfl)
  show N + (offT (5 * i + 1) + 2) = N + 22 + 17 * i + 1 + 6
  unfold offT; (repeat' split) <;> omega
theorem as_4_2 {dC : Nat → ClassId} {dI : Nat → Nat → Nat} {cA : Nat → ClassId} {N : Nat} {H : Heap} {i : Nat} (hi : i < 8) (h : va_P (dC, dI) vwCl (fin_X0_init ((dC, dI), cA, fun kd i => N + off kd i) (N + 22 + 17 * i) (N + 22 + 17 * i + 1)) H) : va_at (dC, dI) vwCl (N + off 4 (5 * i + 2), ent ((dC, dI), cA, fun kd i => N + off kd i) G0 4 (5 * i + 2)) H := by
  have h0 := h 8 _ rfl
  refine at_e h0 (Prod.ext ?_ (congrArg Sum.inr (Prod.ext rfl ?_)))
  · show N + (offT (5 * i + 2)) = N + 22 + 17 * i + 1 + 7
    unfold offT; (repeat' split) <;> omega
  · show ([.ref (N + (offT (5 * i + 2) + 1)), .ref (N + (offT (5 * i + 2) + 2)), .int 0, .int 0, .int 0] : List Value) = [.ref (N + 22 + 17 * i + 1 + 8), .ref (N + 22 + 17 * i + 1 + 9), .int 0, .int 0, .int 0]
    rw [show N + (offT (5 * i + 2) + 1) = (N + 22 + 17 * i + 1 + 8) from by unfold offT; (repeat' split) <;> omega, show N + (offT (5 * i + 2) + 2) = (N + 22 + 17 * i + 1 + 9) from by unfold offT; (repeat' split) <;> omega]
theorem as_5_2 {dC : Nat → ClassId} {dI : Nat → Nat → Nat} {cA : Nat → ClassId} {N : Nat} {H : Heap} {i : Nat} (hi : i < 8) (h : va_P (dC, dI) vwCl (fin_X0_init ((dC, dI), cA, fun kd i => N + off kd i) (N + 22 + 17 * i) (N + 22 + 17 * i + 1)) H) : va_at (dC, dI) vwCl (N + off 5 (5 * i + 2), ent ((dC, dI), cA, fun kd i => N + off kd i) G0 5 (5 * i + 2)) H := by
  refine at_e (h 9 _ rfl) (Prod.ext ?_ rfl)
  show N + (offT (5 * i + 2) + 1) = N + 22 + 17 * i + 1 + 8
  unfold offT; (repeat' split) <;> omega
theorem as_6_2 {dC : Nat → ClassId} {dI : Nat → Nat → Nat} {cA : Nat → ClassId} {N : Nat} {H : Heap} {i : Nat} (hi : i < 8) (h : va_P (dC, dI) vwCl (fin_X0_init ((dC, dI), cA, fun kd i => N + off kd i) (N + 22 + 17 * i) (N + 22 + 17 * i + 1)) H) : va_at (dC, dI) vwCl (N + off 6 (5 * i + 2), ent ((dC, dI), cA, fun kd i => N + off kd i) G0 6 (5 * i + 2)) H := by
  refine at_e (h 10 _ rfl) (Prod.ext ?_ rfl)
  show N + (offT (5 * i + 2) + 2) = N + 22 + 17 * i + 1 + 9
  unfold offT; (repeat' split) <;> omega
theorem as_4_3 {dC : Nat → ClassId} {dI : Nat → Nat → Nat} {cA : Nat → ClassId} {N : Nat} {H : Heap} {i : Nat} (hi : i < 8) (h : va_P (dC, dI) vwCl (fin_X0_init ((dC, dI), cA, fun kd i => N + off kd i) (N + 22 + 17 * i) (N + 22 + 17 * i + 1)) H) : va_at (dC, dI) vwCl (N + off 4 (5 * i + 3), ent ((dC, dI), cA, fun kd i => N + off kd i) G0 4 (5 * i + 3)) H := by
  have h0 := h 11 _ rfl
  refine at_e h0 (Prod.ext ?_ (congrArg Sum.inr (Prod.ext rfl ?_)))
  · show N + (offT (5 * i + 3)) = N + 22 + 17 * i + 1 + 10
    unfold offT; (repeat' split) <;> omega
  · show ([.ref (N + (offT (5 * i + 3) + 1)), .ref (N + (offT (5 * i + 3) + 2)), .int 0, .int 0, .int 0] : List Value) = [.ref (N + 22 + 17 * i + 1 + 11), .ref (N + 22 + 17 * i + 1 + 12), .int 0, .int 0, .int 0]
    rw [show N + (offT (5 * i + 3) + 1) = (N + 22 + 17 * i + 1 + 11) from by unfold offT; (repeat' split) <;> omega, show N + (offT (5 * i + 3) + 2) = (N + 22 + 17 * i + 1 + 12) from by unfold offT; (repeat' split) <;> omega]
theorem as_5_3 {dC : Nat → ClassId} {dI : Nat → Nat → Nat} {cA : Nat → ClassId} {N : Nat} {H : Heap} {i : Nat} (hi : i < 8) (h : va_P (dC, dI) vwCl (fin_X0_init ((dC, dI), cA, fun kd i => N + off kd i) (N + 22 + 17 * i) (N + 22 + 17 * i + 1)) H) : va_at (dC, dI) vwCl (N + off 5 (5 * i + 3), ent ((dC, dI), cA, fun kd i => N + off kd i) G0 5 (5 * i + 3)) H := by
  refine at_e (h 12 _ rfl) (Prod.ext ?_ rfl)
  show N + (offT (5 * i + 3) + 1) = N + 22 + 17 * i + 1 + 11
  unfold offT; (repeat' split) <;> omega
theorem as_6_3 {dC : Nat → ClassId} {dI : Nat → Nat → Nat} {cA : Nat → ClassId} {N : Nat} {H : Heap} {i : Nat} (hi : i < 8) (h : va_P (dC, dI) vwCl (fin_X0_init ((dC, dI), cA, fun kd i => N + off kd i) (N + 22 + 17 * i) (N + 22 + 17 * i + 1)) H) : va_at (dC, dI) vwCl (N + off 6 (5 * i + 3), ent ((dC, dI), cA, fun kd i => N + off kd i) G0 6 (5 * i + 3)) H := by
  refine at_e (h 13 _ rfl) (Prod.ext ?_ rfl)
  show N + (offT (5 * i + 3) + 2) = N + 22 + 17 * i + 1 + 12
  unfold offT; (repeat' split) <;> omega
theorem as_4_4 {dC : Nat → ClassId} {dI : Nat → Nat → Nat} {cA : Nat → ClassId} {N : Nat} {H : Heap} {i : Nat} (hi : i < 8) (h : va_P (dC, dI) vwCl (fin_X0_init ((dC, dI), cA, fun kd i => N + off kd i) (N + 22 + 17 * i) (N + 22 + 17 * i + 1)) H) : va_at (dC, dI) vwCl (N + off 4 (5 * i + 4), ent ((dC, dI), cA, fun kd i => N + off kd i) G0 4 (5 * i + 4)) H := by
  have h0 := h 14 _ rfl
  refine at_e h0 (Prod.ext ?_ (congrArg Sum.inr (Prod.ext rfl ?_)))
  · show N + (offT (5 * i + 4)) = N + 22 + 17 * i + 1 + 13
    unfold offT; (repeat' split) <;> omega
  · show ([.ref (N + (offT (5 * i + 4) + 1)), .ref (N + (offT (5 * i + 4) + 2)), .int 0, .int 0, .int 0] : List Value) = [.ref (N + 22 + 17 * i + 1 + 14), .ref (N + 22 + 17 * i + 1 + 15), .int 0, .int 0, .int 0]
    rw [show N + (offT (5 * i + 4) + 1) = (N + 22 + 17 * i + 1 + 14) from by unfold offT; (repeat' split) <;> omega, show N + (offT (5 * i + 4) + 2) = (N + 22 + 17 * i + 1 + 15) from by unfold offT; (repeat' split) <;> omega]
theorem as_5_4 {dC : Nat → ClassId} {dI : Nat → Nat → Nat} {cA : Nat → ClassId} {N : Nat} {H : Heap} {i : Nat} (hi : i < 8) (h : va_P (dC, dI) vwCl (fin_X0_init ((dC, dI), cA, fun kd i => N + off kd i) (N + 22 + 17 * i) (N + 22 + 17 * i + 1)) H) : va_at (dC, dI) vwCl (N + off 5 (5 * i + 4), ent ((dC, dI), cA, fun kd i => N + off kd i) G0 5 (5 * i + 4)) H := by
  refine at_e (h 15 _ rfl) (Prod.ext ?_ rfl)
  show N + (offT (5 * i + 4) + 1) = N + 22 + 17 * i + 1 + 14
  unfold offT; (repeat' split) <;> omega
theorem as_6_4 {dC : Nat → ClassId} {dI : Nat → Nat → Nat} {cA : Nat → ClassId} {N : Nat} {H : Heap} {i : Nat} (hi : i < 8) (h : va_P (dC, dI) vwCl (fin_X0_init ((dC, dI), cA, fun kd i => N + off kd i) (N + 22 + 17 * i) (N + 22 + 17 * i + 1)) H) : va_at (dC, dI) vwCl (N + off 6 (5 * i + 4), ent ((dC, dI), cA, fun kd i => N + off kd i) G0 6 (5 * i + 4)) H := by
  refine at_e (h 16 _ rfl) (Prod.ext ?_ rfl)
  show N + (offT (5 * i + 4) + 2) = N + 22 + 17 * i + 1 + 15
  unfold offT; (repeat' split) <;> omega
theorem as_9 {dC : Nat → ClassId} {dI : Nat → Nat → Nat} {cA : Nat → ClassId} {N : Nat} {H : Heap} {i : Nat} (hi : i < 10) (h : va_P (dC, dI) vwCl (fin_X2_init ((dC, dI), cA, fun kd i => N + off kd i) (N + 158 + 12 * i) (N + 158 + 12 * i + 1)) H) : va_at (dC, dI) vwCl (N + off 9 (i), ent ((dC, dI), cA, fun kd i => N + off kd i) G0 9 (i)) H := by
  have h0 := h 0 _ rfl
  refine at_e h0 (Prod.ext ?_ (congrArg Sum.inr (Prod.ext rfl ?_)))
  · show N + (158 + 12 * (i)) = (N + 158 + 12 * i)
    omega
  · show ([.ref (N + (159 + 12 * (i))), .ref (N + (160 + 12 * (i))), .int 0, .int 10] : List Value) = [.ref (N + 158 + 12 * i + 1), .ref (N + 158 + 12 * i + 1 + 1), .int 0, .int 10]
    rw [show N + (159 + 12 * (i)) = (N + 158 + 12 * i + 1) from by omega, show N + (160 + 12 * (i)) = (N + 158 + 12 * i + 1 + 1) from by omega]
theorem as_10 {dC : Nat → ClassId} {dI : Nat → Nat → Nat} {cA : Nat → ClassId} {N : Nat} {H : Heap} {i : Nat} (hi : i < 10) (h : va_P (dC, dI) vwCl (fin_X2_init ((dC, dI), cA, fun kd i => N + off kd i) (N + 158 + 12 * i) (N + 158 + 12 * i + 1)) H) : va_at (dC, dI) vwCl (N + off 10 (i), ent ((dC, dI), cA, fun kd i => N + off kd i) G0 10 (i)) H := by
  have h0 := h 1 _ rfl
  have e0 : N + (159 + 12 * (i)) = N + 158 + 12 * i + 1 := by omega
  show va_at (dC, dI) vwCl (N + (159 + 12 * (i)), .inl (cA 8, 3, .inr (.inr (.inr (.inr (fun j => some (N + (offP (41 + 3 * i + j))))))))) H
  rw [e0]
  refine at_q h0 (fun j hj => ?_)
  rcases (show j = 0 ∨ j = 1 ∨ j = 2 by omega) with rfl | rfl | rfl
  · show some (N + (offP (41 + 3 * i + 0))) = some (N + 158 + 12 * i + 1 + 2)
    exact congrArg some (by unfold offP; rw [if_neg (by omega), if_neg (by omega)]; omega)
  · show some (N + (offP (41 + 3 * i + 1))) = some (N + 158 + 12 * i + 1 + 5)
    exact congrArg some (by unfold offP; rw [if_neg (by omega), if_neg (by omega)]; omega)
  · show some (N + (offP (41 + 3 * i + 2))) = some (N + 158 + 12 * i + 1 + 8)
    exact congrArg some (by unfold offP; rw [if_neg (by omega), if_neg (by omega)]; omega)
theorem as_11 {dC : Nat → ClassId} {dI : Nat → Nat → Nat} {cA : Nat → ClassId} {N : Nat} {H : Heap} {i : Nat} (hi : i < 10) (h : va_P (dC, dI) vwCl (fin_X2_init ((dC, dI), cA, fun kd i => N + off kd i) (N + 158 + 12 * i) (N + 158 + 12 * i + 1)) H) : va_at (dC, dI) vwCl (N + off 11 (i), ent ((dC, dI), cA, fun kd i => N + off kd i) G0 11 (i)) H := by
  refine at_e (h 2 _ rfl) (Prod.ext ?_ rfl)
  show N + (160 + 12 * (i)) = N + 158 + 12 * i + 1 + 1
  omega
theorem as_1_0 {dC : Nat → ClassId} {dI : Nat → Nat → Nat} {cA : Nat → ClassId} {N : Nat} {H : Heap} {i : Nat} (hi : i < 10) (h : va_P (dC, dI) vwCl (fin_X2_init ((dC, dI), cA, fun kd i => N + off kd i) (N + 158 + 12 * i) (N + 158 + 12 * i + 1)) H) : va_at (dC, dI) vwCl (N + off 1 (41 + 3 * i + 0), ent ((dC, dI), cA, fun kd i => N + off kd i) G0 1 (41 + 3 * i + 0)) H := by
  have h0 := h 3 _ rfl
  refine at_e h0 (Prod.ext ?_ (congrArg Sum.inr (Prod.ext rfl ?_)))
  · show N + (offP (41 + 3 * i + 0)) = N + 158 + 12 * i + 1 + 2
    unfold offP; (repeat' split) <;> omega
  · show ([.ref (N + (offP (41 + 3 * i + 0) + 1)), .ref (N + (offP (41 + 3 * i + 0) + 2)), .int 0] : List Value) = [.ref (N + 158 + 12 * i + 1 + 3), .ref (N + 158 + 12 * i + 1 + 4), .int 0]
    rw [show N + (offP (41 + 3 * i + 0) + 1) = (N + 158 + 12 * i + 1 + 3) from by unfold offP; (repeat' split) <;> omega, show N + (offP (41 + 3 * i + 0) + 2) = (N + 158 + 12 * i + 1 + 4) from by unfold offP; (repeat' split) <;> omega]
theorem as_2_0 {dC : Nat → ClassId} {dI : Nat → Nat → Nat} {cA : Nat → ClassId} {N : Nat} {H : Heap} {i : Nat} (hi : i < 10) (h : va_P (dC, dI) vwCl (fin_X2_init ((dC, dI), cA, fun kd i => N + off kd i) (N + 158 + 12 * i) (N + 158 + 12 * i + 1)) H) : va_at (dC, dI) vwCl (N + off 2 (41 + 3 * i + 0), ent ((dC, dI), cA, fun kd i => N + off kd i) G0 2 (41 + 3 * i + 0)) H := by
  refine at_e (h 4 _ rfl) (Prod.ext ?_ rfl)
  show N + (offP (41 + 3 * i + 0) + 1) = N + 158 + 12 * i + 1 + 3
  unfold offP; (repeat' split) <;> omega
theorem as_3_0 {dC : Nat → ClassId} {dI : Nat → Nat → Nat} {cA : Nat → ClassId} {N : Nat} {H : Heap} {i : Nat} (hi : i < 10) (h : va_P (dC, dI) vwCl (fin_X2_init ((dC, dI), cA, fun kd i => N + off kd i) (N + 158 + 12 * i) (N + 158 + 12 * i + 1)) H) : va_at (dC, dI) vwCl (N + off 3 (41 + 3 * i + 0), ent ((dC, dI), cA, fun kd i => N + off kd i) G0 3 (41 + 3 * i + 0)) H := by
  refine at_e (h 5 _ rfl) (Prod.ext ?_ rfl)
  show N + (offP (41 + 3 * i + 0) + 2) = N + 158 + 12 * i + 1 + 4
  unfold offP; (repeat' split) <;> omega
theorem as_1_1 {dC : Nat → ClassId} {dI : Nat → Nat → Nat} {cA : Nat → ClassId} {N : Nat} {H : Heap} {i : Nat} (hi : i < 10) (h : va_P (dC, dI) vwCl (fin_X2_init ((dC, dI), cA, fun kd i => N + off kd i) (N + 158 + 12 * i) (N + 158 + 12 * i + 1)) H) : va_at (dC, dI) vwCl (N + off 1 (41 + 3 * i + 1), ent ((dC, dI), cA, fun kd i => N + off kd i) G0 1 (41 + 3 * i + 1)) H := by
  have h0 := h 6 _ rfl
  refine at_e h0 (Prod.ext ?_ (congrArg Sum.inr (Prod.ext rfl ?_)))
  · show N + (offP (41 + 3 * i + 1)) = N + 158 + 12 * i + 1 + 5
    unfold offP; (repeat' split) <;> omega
  · show ([.ref (N + (offP (41 + 3 * i + 1) + 1)), .ref (N + (offP (41 + 3 * i + 1) + 2)), .int 0] : List Value) = [.ref (N + 158 + 12 * i + 1 + 6), .ref (N + 158 + 12 * i + 1 + 7), .int 0]
    rw [show N + (offP (41 + 3 * i + 1) + 1) = (N + 158 + 12 * i + 1 + 6) from by unfold offP; (repeat' split) <;> omega, show N + (offP (41 + 3 * i + 1) + 2) = (N + 158 + 12 * i + 1 + 7) from by unfold offP; (repeat' split) <;> omega]
theorem as_2_1 {dC : Nat → ClassId} {dI : Nat → Nat → Nat} {cA : Nat → ClassId} {N : Nat} {H : Heap} {i : Nat} (hi : i < 10) (h : va_P (dC, dI) vwCl (fin_X2_init ((dC, dI), cA, fun kd i => N + off kd i) (N + 158 + 12 * i) (N + 158 + 12 * i + 1)) H) : va_at (dC, dI) vwCl (N + off 2 (41 + 3 * i + 1), ent ((dC, dI), cA, fun kd i => N + off kd i) G0 2 (41 + 3 * i + 1)) H := by
  refine at_e (h 7 _ rfl) (Prod.ext ?_ rfl)
  show N + (offP (41 + 3 * i + 1) + 1) = N + 158 + 12 * i + 1 + 6
  unfold offP; (repeat' split) <;> omega
theorem as_3_1 {dC : Nat → ClassId} {dI : Nat → Nat → Nat} {cA : Nat → ClassId} {N : Nat} {H : Heap} {i : Nat} (hi : i < 10) (h : va_P (dC, dI) vwCl (fin_X2_init ((dC, dI), cA, fun kd i => N + off kd i) (N + 158 + 12 * i) (N + 158 + 12 * i + 1)) H) : va_at (dC, dI) vwCl (N + off 3 (41 + 3 * i + 1), ent ((dC, dI), cA, fun kd i => N + off kd i) G0 3 (41 + 3 * i + 1)) H := by
  refine at_e (h 8 _ rfl) (Prod.ext ?_ rfl)
  show N + (offP (41 + 3 * i + 1) + 2) = N + 158 + 12 * i + 1 + 7
  unfold offP; (repeat' split) <;> omega
theorem as_1_2 {dC : Nat → ClassId} {dI : Nat → Nat → Nat} {cA : Nat → ClassId} {N : Nat} {H : Heap} {i : Nat} (hi : i < 10) (h : va_P (dC, dI) vwCl (fin_X2_init ((dC, dI), cA, fun kd i => N + off kd i) (N + 158 + 12 * i) (N + 158 + 12 * i + 1)) H) : va_at (dC, dI) vwCl (N + off 1 (41 + 3 * i + 2), ent ((dC, dI), cA, fun kd i => N + off kd i) G0 1 (41 + 3 * i + 2)) H := by
  have h0 := h 9 _ rfl
  refine at_e h0 (Prod.ext ?_ (congrArg Sum.inr (Prod.ext rfl ?_)))
  · show N + (offP (41 + 3 * i + 2)) = N + 158 + 12 * i + 1 + 8
    unfold offP; (repeat' split) <;> omega
  · show ([.ref (N + (offP (41 + 3 * i + 2) + 1)), .ref (N + (offP (41 + 3 * i + 2) + 2)), .int 0] : List Value) = [.ref (N + 158 + 12 * i + 1 + 9), .ref (N + 158 + 12 * i + 1 + 10), .int 0]
    rw [show N + (offP (41 + 3 * i + 2) + 1) = (N + 158 + 12 * i + 1 + 9) from by unfold offP; (repeat' split) <;> omega, show N + (offP (41 + 3 * i + 2) + 2) = (N + 158 + 12 * i + 1 + 10) from by unfold offP; (repeat' split) <;> omega]
theorem as_2_2 {dC : Nat → ClassId} {dI : Nat → Nat → Nat} {cA : Nat → ClassId} {N : Nat} {H : Heap} {i : Nat} (hi : i < 10) (h : va_P (dC, dI) vwCl (fin_X2_init ((dC, dI), cA, fun kd i => N + off kd i) (N + 158 + 12 * i) (N + 158 + 12 * i + 1)) H) : va_at (dC, dI) vwCl (N + off 2 (41 + 3 * i + 2), ent ((dC, dI), cA, fun kd i => N + off kd i) G0 2 (41 + 3 * i + 2)) H := by
  refine at_e (h 10 _ rfl) (Prod.ext ?_ rfl)
  show N + (offP (41 + 3 * i + 2) + 1) = N + 158 + 12 * i + 1 + 9
  unfold offP; (repeat' split) <;> omega
theorem as_3_2 {dC : Nat → ClassId} {dI : Nat → Nat → Nat} {cA : Nat → ClassId} {N : Nat} {H : Heap} {i : Nat} (hi : i < 10) (h : va_P (dC, dI) vwCl (fin_X2_init ((dC, dI), cA, fun kd i => N + off kd i) (N + 158 + 12 * i) (N + 158 + 12 * i + 1)) H) : va_at (dC, dI) vwCl (N + off 3 (41 + 3 * i + 2), ent ((dC, dI), cA, fun kd i => N + off kd i) G0 3 (41 + 3 * i + 2)) H := by
  refine at_e (h 11 _ rfl) (Prod.ext ?_ rfl)
  show N + (offP (41 + 3 * i + 2) + 2) = N + 158 + 12 * i + 1 + 10
  unfold offP; (repeat' split) <;> omega
theorem as_12 {dC : Nat → ClassId} {dI : Nat → Nat → Nat} {cA : Nat → ClassId} {N : Nat} {H : Heap} {i : Nat} (hi : i < 40) (h : va_P (dC, dI) vwCl (fin_X5_init ((dC, dI), cA, fun kd i => N + off kd i) (N + 278 + 7 * i) (N + 278 + 7 * i + 1)) H) : va_at (dC, dI) vwCl (N + off 12 (i), ent ((dC, dI), cA, fun kd i => N + off kd i) G0 12 (i)) H := by
  have h0 := h 0 _ rfl
  refine at_e h0 (Prod.ext ?_ (congrArg Sum.inr (Prod.ext rfl ?_)))
  · show N + (278 + 7 * (i)) = (N + 278 + 7 * i)
    omega
  · show ([.ref (N + (offP ((i + 1)))), .ref (N + (282 + 7 * (i))), .ref (N + (283 + 7 * (i))), .ref (N + (284 + 7 * (i))), .int 0, .int 0, .int 0, .int 0, .int 0, .int 0, .long 0, .int 115, .int 0, .int 0, .int 0, .int 0, .int 0] : List Value) = [.ref (N + 278 + 7 * i + 1), .ref (N + 278 + 7 * i + 1 + 3), .ref (N + 278 + 7 * i + 1 + 4), .ref (N + 278 + 7 * i + 1 + 5), .int 0, .int 0, .int 0, .int 0, .int 0, .int 0, .long 0, .int 115, .int 0, .int 0, .int 0, .int 0, .int 0]
    rw [show N + (offP ((i + 1))) = (N + 278 + 7 * i + 1) from by unfold offP; (repeat' split) <;> omega, show N + (282 + 7 * (i)) = (N + 278 + 7 * i + 1 + 3) from by omega, show N + (283 + 7 * (i)) = (N + 278 + 7 * i + 1 + 4) from by omega, show N + (284 + 7 * (i)) = (N + 278 + 7 * i + 1 + 5) from by omega]
theorem as_1w {dC : Nat → ClassId} {dI : Nat → Nat → Nat} {cA : Nat → ClassId} {N : Nat} {H : Heap} {i : Nat} (hi : i < 40) (h : va_P (dC, dI) vwCl (fin_X5_init ((dC, dI), cA, fun kd i => N + off kd i) (N + 278 + 7 * i) (N + 278 + 7 * i + 1)) H) : va_at (dC, dI) vwCl (N + off 1 (i + 1), ent ((dC, dI), cA, fun kd i => N + off kd i) G0 1 (i + 1)) H := by
  have h0 := h 1 _ rfl
  refine at_e h0 (Prod.ext ?_ (congrArg Sum.inr (Prod.ext rfl ?_)))
  · show N + (offP (i + 1)) = N + 278 + 7 * i + 1
    unfold offP; (repeat' split) <;> omega
  · show ([.ref (N + (offP (i + 1) + 1)), .ref (N + (offP (i + 1) + 2)), .int 0] : List Value) = [.ref (N + 278 + 7 * i + 1 + 1), .ref (N + 278 + 7 * i + 1 + 2), .int 0]
    rw [show N + (offP (i + 1) + 1) = (N + 278 + 7 * i + 1 + 1) from by unfold offP; (repeat' split) <;> omega, show N + (offP (i + 1) + 2) = (N + 278 + 7 * i + 1 + 2) from by unfold offP; (repeat' split) <;> omega]
theorem as_2w {dC : Nat → ClassId} {dI : Nat → Nat → Nat} {cA : Nat → ClassId} {N : Nat} {H : Heap} {i : Nat} (hi : i < 40) (h : va_P (dC, dI) vwCl (fin_X5_init ((dC, dI), cA, fun kd i => N + off kd i) (N + 278 + 7 * i) (N + 278 + 7 * i + 1)) H) : va_at (dC, dI) vwCl (N + off 2 (i + 1), ent ((dC, dI), cA, fun kd i => N + off kd i) G0 2 (i + 1)) H := by
  refine at_e (h 2 _ rfl) (Prod.ext ?_ rfl)
  show N + (offP (i + 1) + 1) = N + 278 + 7 * i + 1 + 1
  unfold offP; (repeat' split) <;> omega
theorem as_3w {dC : Nat → ClassId} {dI : Nat → Nat → Nat} {cA : Nat → ClassId} {N : Nat} {H : Heap} {i : Nat} (hi : i < 40) (h : va_P (dC, dI) vwCl (fin_X5_init ((dC, dI), cA, fun kd i => N + off kd i) (N + 278 + 7 * i) (N + 278 + 7 * i + 1)) H) : va_at (dC, dI) vwCl (N + off 3 (i + 1), ent ((dC, dI), cA, fun kd i => N + off kd i) G0 3 (i + 1)) H := by
  refine at_e (h 3 _ rfl) (Prod.ext ?_ rfl)
  show N + (offP (i + 1) + 2) = N + 278 + 7 * i + 1 + 2
  unfold offP; (repeat' split) <;> omega
theorem as_13 {dC : Nat → ClassId} {dI : Nat → Nat → Nat} {cA : Nat → ClassId} {N : Nat} {H : Heap} {i : Nat} (hi : i < 40) (h : va_P (dC, dI) vwCl (fin_X5_init ((dC, dI), cA, fun kd i => N + off kd i) (N + 278 + 7 * i) (N + 278 + 7 * i + 1)) H) : va_at (dC, dI) vwCl (N + off 13 (i), ent ((dC, dI), cA, fun kd i => N + off kd i) G0 13 (i)) H := by
  refine at_e (h 4 _ rfl) (Prod.ext ?_ rfl)
  show N + (282 + 7 * (i)) = N + 278 + 7 * i + 1 + 3
  omega
theorem as_14 {dC : Nat → ClassId} {dI : Nat → Nat → Nat} {cA : Nat → ClassId} {N : Nat} {H : Heap} {i : Nat} (hi : i < 40) (h : va_P (dC, dI) vwCl (fin_X5_init ((dC, dI), cA, fun kd i => N + off kd i) (N + 278 + 7 * i) (N + 278 + 7 * i + 1)) H) : va_at (dC, dI) vwCl (N + off 14 (i), ent ((dC, dI), cA, fun kd i => N + off kd i) G0 14 (i)) H := by
  refine at_e (h 5 _ rfl) (Prod.ext ?_ rfl)
  show N + (283 + 7 * (i)) = N + 278 + 7 * i + 1 + 4
  omega
theorem as_15 {dC : Nat → ClassId} {dI : Nat → Nat → Nat} {cA : Nat → ClassId} {N : Nat} {H : Heap} {i : Nat} (hi : i < 40) (h : va_P (dC, dI) vwCl (fin_X5_init ((dC, dI), cA, fun kd i => N + off kd i) (N + 278 + 7 * i) (N + 278 + 7 * i + 1)) H) : va_at (dC, dI) vwCl (N + off 15 (i), ent ((dC, dI), cA, fun kd i => N + off kd i) G0 15 (i)) H := by
  refine at_e (h 6 _ rfl) (Prod.ext ?_ rfl)
  show N + (284 + 7 * (i)) = N + 278 + 7 * i + 1 + 5
  omega
theorem as_26 {dC : Nat → ClassId} {dI : Nat → Nat → Nat} {cA : Nat → ClassId} {N : Nat} {H : Heap} {i : Nat} (h : va_P (dC, dI) vwCl (fin_X7_init ((dC, dI), cA, fun kd i => N + off kd i) (N + 558) (N + 559)) H) : va_at (dC, dI) vwCl (N + off 26 (0), ent ((dC, dI), cA, fun kd i => N + off kd i) G0 26 (0)) H := by
  have h0 := h 0 _ rfl
  refine at_e h0 (Prod.ext ?_ (congrArg Sum.inr (Prod.ext rfl ?_)))
  · show N + (558) = (N + 558)
    omega
  · show ([.int 0, .int 0, .int 0, .int 0, .int 0, .int 0, .int 12, .int 0, .int 0, .int 0, .ref (N + (559)), .ref (N + (560)), .ref (N + (561)), .ref (N + (562)), .ref (N + (563)), .ref (N + (564)), .ref (N + (565)), .ref (N + (566)), .ref (N + (567)), .ref (N + (568)), .ref (N + (569)), .ref (N + (570)), .ref (N + (571)), .ref (N + (572)), .ref (N + (573)), .ref (N + (574)), .ref (N + (575)), .ref (N + (576)), .ref (N + (577)), .ref (N + (578)), .ref (N + (579)), .ref (N + (580)), .ref (N + (581)), .ref (N + (582)), .ref (N + (583)), .ref (N + (584)), .ref (N + (585)), .ref (N + (586)), .int 0, .int 0, .int 0, .int 0, .int 0, .int 0, .int 0, .ref (N + (587))] : List Value) = [.int 0, .int 0, .int 0, .int 0, .int 0, .int 0, .int 12, .int 0, .int 0, .int 0, .ref (N + 559), .ref (N + 559 + 1), .ref (N + 559 + 2), .ref (N + 559 + 3), .ref (N + 559 + 4), .ref (N + 559 + 5), .ref (N + 559 + 6), .ref (N + 559 + 7), .ref (N + 559 + 8), .ref (N + 559 + 9), .ref (N + 559 + 10), .ref (N + 559 + 11), .ref (N + 559 + 12), .ref (N + 559 + 13), .ref (N + 559 + 14), .ref (N + 559 + 15), .ref (N + 559 + 16), .ref (N + 559 + 17), .ref (N + 559 + 18), .ref (N + 559 + 19), .ref (N + 559 + 20), .ref (N + 559 + 21), .ref (N + 559 + 22), .ref (N + 559 + 23), .ref (N + 559 + 24), .ref (N + 559 + 25), .ref (N + 559 + 26), .ref (N + 559 + 27), .int 0, .int 0, .int 0, .int 0, .int 0, .int 0, .int 0, .ref (N + 559 + 28)]
    rw [show N + (559) = (N + 559) from by omega, show N + (560) = (N + 559 + 1) from by omega, show N + (561) = (N + 559 + 2) from by omega, show N + (562) = (N + 559 + 3) from by omega, show N + (563) = (N + 559 + 4) from by omega, show N + (564) = (N + 559 + 5) from by omega, show N + (565) = (N + 559 + 6) from by omega, show N + (566) = (N + 559 + 7) from by omega, show N + (567) = (N + 559 + 8) from by omega, show N + (568) = (N + 559 + 9) from by omega, show N + (569) = (N + 559 + 10) from by omega, show N + (570) = (N + 559 + 11) from by omega, show N + (571) = (N + 559 + 12) from by omega, show N + (572) = (N + 559 + 13) from by omega, show N + (573) = (N + 559 + 14) from by omega, show N + (574) = (N + 559 + 15) from by omega, show N + (575) = (N + 559 + 16) from by omega, show N + (576) = (N + 559 + 17) from by omega, show N + (577) = (N + 559 + 18) from by omega, show N + (578) = (N + 559 + 19) from by omega, show N + (579) = (N + 559 + 20) from by omega, show N + (580) = (N + 559 + 21) from by omega, show N + (581) = (N + 559 + 22) from by omega, show N + (582) = (N + 559 + 23) from by omega, show N + (583) = (N + 559 + 24) from by omega, show N + (584) = (N + 559 + 25) from by omega, show N + (585) = (N + 559 + 26) from by omega, show N + (586) = (N + 559 + 27) from by omega, show N + (587) = (N + 559 + 28) from by omega]
theorem as_27 {dC : Nat → ClassId} {dI : Nat → Nat → Nat} {cA : Nat → ClassId} {N : Nat} {H : Heap} {i : Nat} (h : va_P (dC, dI) vwCl (fin_X7_init ((dC, dI), cA, fun kd i => N + off kd i) (N + 558) (N + 559)) H) : va_at (dC, dI) vwCl (N + off 27 (0), ent ((dC, dI), cA, fun kd i => N + off kd i) G0 27 (0)) H := by
  refine at_e (h 1 _ rfl) (Prod.ext ?_ rfl)
  show N + (559) = N + 559
  omega
theorem as_28 {dC : Nat → ClassId} {dI : Nat → Nat → Nat} {cA : Nat → ClassId} {N : Nat} {H : Heap} {i : Nat} (h : va_P (dC, dI) vwCl (fin_X7_init ((dC, dI), cA, fun kd i => N + off kd i) (N + 558) (N + 559)) H) : va_at (dC, dI) vwCl (N + off 28 (0), ent ((dC, dI), cA, fun kd i => N + off kd i) G0 28 (0)) H := by
  refine at_e (h 2 _ rfl) (Prod.ext ?_ rfl)
  show N + (560) = N + 559 + 1
  omega
theorem as_29 {dC : Nat → ClassId} {dI : Nat → Nat → Nat} {cA : Nat → ClassId} {N : Nat} {H : Heap} {i : Nat} (h : va_P (dC, dI) vwCl (fin_X7_init ((dC, dI), cA, fun kd i => N + off kd i) (N + 558) (N + 559)) H) : va_at (dC, dI) vwCl (N + off 29 (0), ent ((dC, dI), cA, fun kd i => N + off kd i) G0 29 (0)) H := by
  refine at_e (h 3 _ rfl) (Prod.ext ?_ rfl)
  show N + (561) = N + 559 + 2
  omega
theorem as_30 {dC : Nat → ClassId} {dI : Nat → Nat → Nat} {cA : Nat → ClassId} {N : Nat} {H : Heap} {i : Nat} (h : va_P (dC, dI) vwCl (fin_X7_init ((dC, dI), cA, fun kd i => N + off kd i) (N + 558) (N + 559)) H) : va_at (dC, dI) vwCl (N + off 30 (0), ent ((dC, dI), cA, fun kd i => N + off kd i) G0 30 (0)) H := by
  refine at_e (h 4 _ rfl) (Prod.ext ?_ rfl)
  show N + (562) = N + 559 + 3
  omega
theorem as_31 {dC : Nat → ClassId} {dI : Nat → Nat → Nat} {cA : Nat → ClassId} {N : Nat} {H : Heap} {i : Nat} (h : va_P (dC, dI) vwCl (fin_X7_init ((dC, dI), cA, fun kd i => N + off kd i) (N + 558) (N + 559)) H) : va_at (dC, dI) vwCl (N + off 31 (0), ent ((dC, dI), cA, fun kd i => N + off kd i) G0 31 (0)) H := by
  refine at_e (h 5 _ rfl) (Prod.ext ?_ rfl)
  show N + (563) = N + 559 + 4
  omega
theorem as_32 {dC : Nat → ClassId} {dI : Nat → Nat → Nat} {cA : Nat → ClassId} {N : Nat} {H : Heap} {i : Nat} (h : va_P (dC, dI) vwCl (fin_X7_init ((dC, dI), cA, fun kd i => N + off kd i) (N + 558) (N + 559)) H) : va_at (dC, dI) vwCl (N + off 32 (0), ent ((dC, dI), cA, fun kd i => N + off kd i) G0 32 (0)) H := by
  refine at_e (h 6 _ rfl) (Prod.ext ?_ rfl)
  show N + (564) = N + 559 + 5
  omega
theorem as_33 {dC : Nat → ClassId} {dI : Nat → Nat → Nat} {cA : Nat → ClassId} {N : Nat} {H : Heap} {i : Nat} (h : va_P (dC, dI) vwCl (fin_X7_init ((dC, dI), cA, fun kd i => N + off kd i) (N + 558) (N + 559)) H) : va_at (dC, dI) vwCl (N + off 33 (0), ent ((dC, dI), cA, fun kd i => N + off kd i) G0 33 (0)) H := by
  refine at_e (h 7 _ rfl) (Prod.ext ?_ rfl)
  show N + (565) = N + 559 + 6
  omega
theorem as_34 {dC : Nat → ClassId} {dI : Nat → Nat → Nat} {cA : Nat → ClassId} {N : Nat} {H : Heap} {i : Nat} (h : va_P (dC, dI) vwCl (fin_X7_init ((dC, dI), cA, fun kd i => N + off kd i) (N + 558) (N + 559)) H) : va_at (dC, dI) vwCl (N + off 34 (0), ent ((dC, dI), cA, fun kd i => N + off kd i) G0 34 (0)) H := by
  refine at_e (h 8 _ rfl) (Prod.ext ?_ rfl)
  show N + (566) = N + 559 + 7
  omega
theorem as_35 {dC : Nat → ClassId} {dI : Nat → Nat → Nat} {cA : Nat → ClassId} {N : Nat} {H : Heap} {i : Nat} (h : va_P (dC, dI) vwCl (fin_X7_init ((dC, dI), cA, fun kd i => N + off kd i) (N + 558) (N + 559)) H) : va_at (dC, dI) vwCl (N + off 35 (0), ent ((dC, dI), cA, fun kd i => N + off kd i) G0 35 (0)) H := by
  refine at_e (h 9 _ rfl) (Prod.ext ?_ rfl)
  show N + (567) = N + 559 + 8
  omega
theorem as_36 {dC : Nat → ClassId} {dI : Nat → Nat → Nat} {cA : Nat → ClassId} {N : Nat} {H : Heap} {i : Nat} (h : va_P (dC, dI) vwCl (fin_X7_init ((dC, dI), cA, fun kd i => N + off kd i) (N + 558) (N + 559)) H) : va_at (dC, dI) vwCl (N + off 36 (0), ent ((dC, dI), cA, fun kd i => N + off kd i) G0 36 (0)) H := by
  refine at_e (h 10 _ rfl) (Prod.ext ?_ rfl)
  show N + (568) = N + 559 + 9
  omega
theorem as_37 {dC : Nat → ClassId} {dI : Nat → Nat → Nat} {cA : Nat → ClassId} {N : Nat} {H : Heap} {i : Nat} (h : va_P (dC, dI) vwCl (fin_X7_init ((dC, dI), cA, fun kd i => N + off kd i) (N + 558) (N + 559)) H) : va_at (dC, dI) vwCl (N + off 37 (0), ent ((dC, dI), cA, fun kd i => N + off kd i) G0 37 (0)) H := by
  refine at_e (h 11 _ rfl) (Prod.ext ?_ rfl)
  show N + (569) = N + 559 + 10
  omega
theorem as_38 {dC : Nat → ClassId} {dI : Nat → Nat → Nat} {cA : Nat → ClassId} {N : Nat} {H : Heap} {i : Nat} (h : va_P (dC, dI) vwCl (fin_X7_init ((dC, dI), cA, fun kd i => N + off kd i) (N + 558) (N + 559)) H) : va_at (dC, dI) vwCl (N + off 38 (0), ent ((dC, dI), cA, fun kd i => N + off kd i) G0 38 (0)) H := by
  refine at_e (h 12 _ rfl) (Prod.ext ?_ rfl)
  show N + (570) = N + 559 + 11
  omega
theorem as_39 {dC : Nat → ClassId} {dI : Nat → Nat → Nat} {cA : Nat → ClassId} {N : Nat} {H : Heap} {i : Nat} (h : va_P (dC, dI) vwCl (fin_X7_init ((dC, dI), cA, fun kd i => N + off kd i) (N + 558) (N + 559)) H) : va_at (dC, dI) vwCl (N + off 39 (0), ent ((dC, dI), cA, fun kd i => N + off kd i) G0 39 (0)) H := by
  refine at_e (h 13 _ rfl) (Prod.ext ?_ rfl)
  show N + (571) = N + 559 + 12
  omega
theorem as_40 {dC : Nat → ClassId} {dI : Nat → Nat → Nat} {cA : Nat → ClassId} {N : Nat} {H : Heap} {i : Nat} (h : va_P (dC, dI) vwCl (fin_X7_init ((dC, dI), cA, fun kd i => N + off kd i) (N + 558) (N + 559)) H) : va_at (dC, dI) vwCl (N + off 40 (0), ent ((dC, dI), cA, fun kd i => N + off kd i) G0 40 (0)) H := by
  refine at_e (h 14 _ rfl) (Prod.ext ?_ rfl)
  show N + (572) = N + 559 + 13
  omega
theorem as_41 {dC : Nat → ClassId} {dI : Nat → Nat → Nat} {cA : Nat → ClassId} {N : Nat} {H : Heap} {i : Nat} (h : va_P (dC, dI) vwCl (fin_X7_init ((dC, dI), cA, fun kd i => N + off kd i) (N + 558) (N + 559)) H) : va_at (dC, dI) vwCl (N + off 41 (0), ent ((dC, dI), cA, fun kd i => N + off kd i) G0 41 (0)) H := by
  refine at_e (h 15 _ rfl) (Prod.ext ?_ rfl)
  show N + (573) = N + 559 + 14
  omega
theorem as_42 {dC : Nat → ClassId} {dI : Nat → Nat → Nat} {cA : Nat → ClassId} {N : Nat} {H : Heap} {i : Nat} (h : va_P (dC, dI) vwCl (fin_X7_init ((dC, dI), cA, fun kd i => N + off kd i) (N + 558) (N + 559)) H) : va_at (dC, dI) vwCl (N + off 42 (0), ent ((dC, dI), cA, fun kd i => N + off kd i) G0 42 (0)) H := by
  refine at_e (h 16 _ rfl) (Prod.ext ?_ rfl)
  show N + (574) = N + 559 + 15
  omega
theorem as_43 {dC : Nat → ClassId} {dI : Nat → Nat → Nat} {cA : Nat → ClassId} {N : Nat} {H : Heap} {i : Nat} (h : va_P (dC, dI) vwCl (fin_X7_init ((dC, dI), cA, fun kd i => N + off kd i) (N + 558) (N + 559)) H) : va_at (dC, dI) vwCl (N + off 43 (0), ent ((dC, dI), cA, fun kd i => N + off kd i) G0 43 (0)) H := by
  refine at_e (h 17 _ rfl) (Prod.ext ?_ rfl)
  show N + (575) = N + 559 + 16
  omega
theorem as_44 {dC : Nat → ClassId} {dI : Nat → Nat → Nat} {cA : Nat → ClassId} {N : Nat} {H : Heap} {i : Nat} (h : va_P (dC, dI) vwCl (fin_X7_init ((dC, dI), cA, fun kd i => N + off kd i) (N + 558) (N + 559)) H) : va_at (dC, dI) vwCl (N + off 44 (0), ent ((dC, dI), cA, fun kd i => N + off kd i) G0 44 (0)) H := by
  refine at_e (h 18 _ rfl) (Prod.ext ?_ rfl)
  show N + (576) = N + 559 + 17
  omega
theorem as_45 {dC : Nat → ClassId} {dI : Nat → Nat → Nat} {cA : Nat → ClassId} {N : Nat} {H : Heap} {i : Nat} (h : va_P (dC, dI) vwCl (fin_X7_init ((dC, dI), cA, fun kd i => N + off kd i) (N + 558) (N + 559)) H) : va_at (dC, dI) vwCl (N + off 45 (0), ent ((dC, dI), cA, fun kd i => N + off kd i) G0 45 (0)) H := by
  refine at_e (h 19 _ rfl) (Prod.ext ?_ rfl)
  show N + (577) = N + 559 + 18
  omega
theorem as_46 {dC : Nat → ClassId} {dI : Nat → Nat → Nat} {cA : Nat → ClassId} {N : Nat} {H : Heap} {i : Nat} (h : va_P (dC, dI) vwCl (fin_X7_init ((dC, dI), cA, fun kd i => N + off kd i) (N + 558) (N + 559)) H) : va_at (dC, dI) vwCl (N + off 46 (0), ent ((dC, dI), cA, fun kd i => N + off kd i) G0 46 (0)) H := by
  refine at_e (h 20 _ rfl) (Prod.ext ?_ rfl)
  show N + (578) = N + 559 + 19
  omega
theorem as_47 {dC : Nat → ClassId} {dI : Nat → Nat → Nat} {cA : Nat → ClassId} {N : Nat} {H : Heap} {i : Nat} (h : va_P (dC, dI) vwCl (fin_X7_init ((dC, dI), cA, fun kd i => N + off kd i) (N + 558) (N + 559)) H) : va_at (dC, dI) vwCl (N + off 47 (0), ent ((dC, dI), cA, fun kd i => N + off kd i) G0 47 (0)) H := by
  refine at_e (h 21 _ rfl) (Prod.ext ?_ rfl)
  show N + (579) = N + 559 + 20
  omega
theorem as_48 {dC : Nat → ClassId} {dI : Nat → Nat → Nat} {cA : Nat → ClassId} {N : Nat} {H : Heap} {i : Nat} (h : va_P (dC, dI) vwCl (fin_X7_init ((dC, dI), cA, fun kd i => N + off kd i) (N + 558) (N + 559)) H) : va_at (dC, dI) vwCl (N + off 48 (0), ent ((dC, dI), cA, fun kd i => N + off kd i) G0 48 (0)) H := by
  refine at_e (h 22 _ rfl) (Prod.ext ?_ rfl)
  show N + (580) = N + 559 + 21
  omega
theorem as_49 {dC : Nat → ClassId} {dI : Nat → Nat → Nat} {cA : Nat → ClassId} {N : Nat} {H : Heap} {i : Nat} (h : va_P (dC, dI) vwCl (fin_X7_init ((dC, dI), cA, fun kd i => N + off kd i) (N + 558) (N + 559)) H) : va_at (dC, dI) vwCl (N + off 49 (0), ent ((dC, dI), cA, fun kd i => N + off kd i) G0 49 (0)) H := by
  refine at_e (h 23 _ rfl) (Prod.ext ?_ rfl)
  show N + (581) = N + 559 + 22
  omega
theorem as_50 {dC : Nat → ClassId} {dI : Nat → Nat → Nat} {cA : Nat → ClassId} {N : Nat} {H : Heap} {i : Nat} (h : va_P (dC, dI) vwCl (fin_X7_init ((dC, dI), cA, fun kd i => N + off kd i) (N + 558) (N + 559)) H) : va_at (dC, dI) vwCl (N + off 50 (0), ent ((dC, dI), cA, fun kd i => N + off kd i) G0 50 (0)) H := by
  refine at_e (h 24 _ rfl) (Prod.ext ?_ rfl)
  show N + (582) = N + 559 + 23
  omega
theorem as_51 {dC : Nat → ClassId} {dI : Nat → Nat → Nat} {cA : Nat → ClassId} {N : Nat} {H : Heap} {i : Nat} (h : va_P (dC, dI) vwCl (fin_X7_init ((dC, dI), cA, fun kd i => N + off kd i) (N + 558) (N + 559)) H) : va_at (dC, dI) vwCl (N + off 51 (0), ent ((dC, dI), cA, fun kd i => N + off kd i) G0 51 (0)) H := by
  refine at_e (h 25 _ rfl) (Prod.ext ?_ rfl)
  show N + (583) = N + 559 + 24
  omega
theorem as_52 {dC : Nat → ClassId} {dI : Nat → Nat → Nat} {cA : Nat → ClassId} {N : Nat} {H : Heap} {i : Nat} (h : va_P (dC, dI) vwCl (fin_X7_init ((dC, dI), cA, fun kd i => N + off kd i) (N + 558) (N + 559)) H) : va_at (dC, dI) vwCl (N + off 52 (0), ent ((dC, dI), cA, fun kd i => N + off kd i) G0 52 (0)) H := by
  refine at_e (h 26 _ rfl) (Prod.ext ?_ rfl)
  show N + (584) = N + 559 + 25
  omega
theorem as_53 {dC : Nat → ClassId} {dI : Nat → Nat → Nat} {cA : Nat → ClassId} {N : Nat} {H : Heap} {i : Nat} (h : va_P (dC, dI) vwCl (fin_X7_init ((dC, dI), cA, fun kd i => N + off kd i) (N + 558) (N + 559)) H) : va_at (dC, dI) vwCl (N + off 53 (0), ent ((dC, dI), cA, fun kd i => N + off kd i) G0 53 (0)) H := by
  refine at_e (h 27 _ rfl) (Prod.ext ?_ rfl)
  show N + (585) = N + 559 + 26
  omega
theorem as_54 {dC : Nat → ClassId} {dI : Nat → Nat → Nat} {cA : Nat → ClassId} {N : Nat} {H : Heap} {i : Nat} (h : va_P (dC, dI) vwCl (fin_X7_init ((dC, dI), cA, fun kd i => N + off kd i) (N + 558) (N + 559)) H) : va_at (dC, dI) vwCl (N + off 54 (0), ent ((dC, dI), cA, fun kd i => N + off kd i) G0 54 (0)) H := by
  refine at_e (h 28 _ rfl) (Prod.ext ?_ rfl)
  show N + (586) = N + 559 + 27
  omega
theorem as_55 {dC : Nat → ClassId} {dI : Nat → Nat → Nat} {cA : Nat → ClassId} {N : Nat} {H : Heap} {i : Nat} (h : va_P (dC, dI) vwCl (fin_X7_init ((dC, dI), cA, fun kd i => N + off kd i) (N + 558) (N + 559)) H) : va_at (dC, dI) vwCl (N + off 55 (0), ent ((dC, dI), cA, fun kd i => N + off kd i) G0 55 (0)) H := by
  refine at_e (h 29 _ rfl) (Prod.ext ?_ rfl)
  show N + (587) = N + 559 + 28
  omega