def offP (i : Nat) : Nat := if i = 0 then 1 else if i ≤ 40 then 272 + 7 * i else 161 + 12 * ((i - 41) / 3) + 3 * ((i - 41) % 3)
def offT (i : Nat) : Nat := if i = 40 then 4 else 24 + 17 * (i / 5) + 3 * (i % 5)
def offL (i : Nat) : List Nat := [0, offP i, offP i + 1, offP i + 2, offT i, offT i + 1, offT i + 2, 22 + 17 * i, 23 + 17 * i, 158 + 12 * i, 159 + 12 * i, 160 + 12 * i, 278 + 7 * i, 282 + 7 * i, 283 + 7 * i, 284 + 7 * i, 12 + 5 * i, 13 + 5 * i, 14 + 5 * i, 15 + 5 * i, 16 + 5 * i, 7, 8, 9, 10, 11, 558, 559, 560, 561, 562, 563, 564, 565, 566, 567, 568, 569, 570, 571, 572, 573, 574, 575, 576, 577, 578, 579, 580, 581, 582, 583, 584, 585, 586, 587, 588, 589]
def off (kd i : Nat) : Nat := (offL i).getD kd 0
def iv (kd j : Nat) : Int32 := if kd = 0 ∧ j = 13 then 12 else if kd = 9 ∧ j = 3 then 10 else if kd = 12 ∧ j = 11 then 115 else if kd = 26 ∧ j = 6 then 12 else 0
def S0 : SS := (fun kd _ j => iv kd j, fun _ _ _ => 0, fun _ i j => 41 + 3 * i + j, fun _ _ _ => 0)
def G0 : SG := (S0, S0, S0)
set_option maxRecDepth 100000 in
theorem off_nd : (ids.map (fun q => off q.1 q.2)).Nodup := by decide +kernel
theorem off_inj {i j : Nat} {p q : Nat × Nat} (hi : ids[i]? = some p) (hj : ids[j]? = some q) (e : off p.1 p.2 = off q.1 q.2) : i = j := by
  have h1 := (List.getElem?_eq_some_iff.mp hi)
  have h2 := (List.getElem?_eq_some_iff.mp hj)
  obtain ⟨l1, e1⟩ := h1
  obtain ⟨l2, e2⟩ := h2
  have hl1 : i < (ids.map (fun q => off q.1 q.2)).length := by rw [List.length_map]; exact l1
  have hl2 : j < (ids.map (fun q => off q.1 q.2)).length := by rw [List.length_map]; exact l2
  refine (List.getElem_inj (h₀ := hl1) (h₁ := hl2) off_nd).mp ?_
  rw [List.getElem_map, List.getElem_map, e1, e2]
  exact e
theorem wD_off (D : va_G) (cA : Nat → ClassId) (N : Nat) : wD (D, cA, fun kd i => N + off kd i) := fun i j p q hi hj e => off_inj hi hj (by have e : N + off p.1 p.2 = N + off q.1 q.2 := e; omega)
theorem arr_cong {cA : ClassId} {n : Nat} {f g : Nat → Value} (h : ∀ j, j < n → f j = g j) : arrV cA n f = arrV cA n g := by
  unfold arrV
  congr 1
  exact Array.ext (by simp) (fun i h1 h2 => by simp at h1; simp [h i (by simpa using h1)])
theorem at_q {D : va_G} {H : Heap} {a n : Nat} {cA : ClassId} {f g : Nat → Option Nat} (h : va_at D vwCl (a, .inl (cA, n, .inr (.inr (.inr (.inr f))))) H) (e : ∀ j, j < n → g j = f j) : va_at D vwCl (a, .inl (cA, n, .inr (.inr (.inr (.inr g))))) H := by
  show H[a]? = some (vp_cell _ _)
  rw [vp_cell_q, arr_cong (g := fun j => va_rf (f j)) (fun j hj => by rw [e j hj])]
  exact h
theorem at_e {D : va_G} {H : Heap} {q q1 : Nat × va_E} (h : va_at D vwCl q H) (e : q1 = q) : va_at D vwCl q1 H := e ▸ h
theorem vP_mem {D : va_G} {H : Heap} {ws : va_W} (h : va_P D vwCl ws H) {q : Nat × va_E} (hq : q ∈ ws) : va_at D vwCl q H := by
  obtain ⟨k, hk⟩ := List.getElem?_of_mem hq
  exact h k q hk
theorem vP_bk {D : va_G} {H : Heap} {n : Nat} {f : Nat → va_W} (h : va_P D vwCl ((List.range n).flatMap f) H) {i : Nat} (hi : i < n) : va_P D vwCl (f i) H := fun k q hk => vP_mem h (List.mem_flatMap.mpr ⟨i, List.mem_range.mpr hi, List.mem_of_getElem? hk⟩)
theorem vP_l {D : va_G} {H : Heap} {a b : va_W} (h : va_P D vwCl (a ++ b) H) : va_P D vwCl a H := fun k q hk => vP_mem h (List.mem_append.mpr (Or.inl (List.mem_of_getElem? hk)))
theorem vP_r {D : va_G} {H : Heap} {a b : va_W} (h : va_P D vwCl (a ++ b) H) : va_P D vwCl b H := fun k q hk => vP_mem h (List.mem_append.mpr (Or.inr (List.mem_of_getElem? hk)))
theorem rng_app (a n m : Nat) : (List.range (n + m)).map (fun k => a + k) = (List.range n).map (fun k => a + k) ++ (List.range m).map (fun k => a + n + k) := by
  rw [List.range_add, List.map_append, List.map_map]
  congr 1
  exact List.map_congr_left (fun k _ => by simp [Nat.add_assoc])
theorem bk_X0_f (Z : ZT) (a : Nat) : ∀ j : Nat, (bk_X0 Z a j).map Prod.fst = (List.range (17 * j)).map (fun k => a + k)
  | 0 => rfl
  | j + 1 => by
    rw [bk_X0_s, List.map_append, bk_X0_f Z a j, Nat.mul_succ, rng_app]
    rfl
theorem bk_X2_f (Z : ZT) (a : Nat) : ∀ j : Nat, (bk_X2 Z a j).map Prod.fst = (List.range (12 * j)).map (fun k => a + k)
  | 0 => rfl
  | j + 1 => by
    rw [bk_X2_s, List.map_append, bk_X2_f Z a j, Nat.mul_succ, rng_app]
    rfl
theorem bk_X5_f (Z : ZT) (a : Nat) : ∀ j : Nat, (bk_X5 Z a j).map Prod.fst = (List.range (7 * j)).map (fun k => a + k)
  | 0 => rfl
  | j + 1 => by
    rw [bk_X5_s, List.map_append, bk_X5_f Z a j, Nat.mul_succ, rng_app]
    rfl
theorem d_X6_init {Z : ZT} {e : va_E} (h0 sz : Nat) (h : h0 < sz) : va_D (va_A [(h0, e)] sz) (fin_X6_init Z h0 sz) := by
  refine cn_D _ 557 ?_ h
  unfold fin_X6_init
  rw [List.map_append, List.map_append, List.map_append, bk_X0_f, bk_X2_f, bk_X5_f, show (557 : Nat) = 21 + (17 * 8 + (12 * 10 + 7 * 40)) from rfl, rng_app, rng_app, rng_app]
  rfl
