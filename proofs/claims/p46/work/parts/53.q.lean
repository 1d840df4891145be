theorem lw_in {L : Nat} {ix : Int32} (hL : L ≤ 2048) (h0 : 0 ≤ ix) (h4 : ix.toInt + 4 ≤ L) {k : Nat} (hk : k ≤ 3) : vp_in (ix + nI k) L := by
  have h1 := Int32.le_iff_toInt_le.mp h0
  rw [toInt_z] at h1
  rw [vp_in_iff]
  have h2 : (ix + nI k).toInt = ix.toInt + k := by
    rw [Int32.toInt_add, nI_toInt (by omega)]
    apply Int.bmod_eq_of_le <;> omega
  omega
theorem lw_add {L : Nat} {ix : Int32} (hL : L ≤ 2048) (h0 : 0 ≤ ix) (h4 : ix.toInt + 4 ≤ L) : (ix + (4 : Int32)).toInt = ix.toInt + 4 := by
  have h1 := Int32.le_iff_toInt_le.mp h0
  rw [toInt_z] at h1
  have h3 : (4 : Int32).toInt = 4 := rfl
  rw [Int32.toInt_add, h3]
  apply Int.bmod_eq_of_le <;> omega
theorem lw_cmp {L : Nat} {ix : Int32} (hL : L ≤ 2048) (h : ¬ (Int32.ofNat L - (4 : Int32)) < ix) : ix.toInt + 4 ≤ L := by
  have h3 : (4 : Int32).toInt = 4 := rfl
  have h2 : (Int32.ofNat L - (4 : Int32)).toInt = (L : Int) - 4 := by
    rw [Int32.toInt_sub, h3, show (Int32.ofNat L).toInt = (L : Int) from nI_toInt (by omega)]
    apply Int.bmod_eq_of_le <;> omega
  rw [Int32.lt_iff_toInt_lt, h2] at h
  omega
def OI (X : SS) : Prop := OKS X ∧ INV X
def RSI (X M : SS) : Prop := OI X ∧ OKS M
theorem OI.ki {X Y : SS} (h : OI X) (hY : OKS Y) (k : KI X Y) : OI Y := ⟨hY, k.inv h.1 h.2⟩
theorem lx_of {α β : Type} {t : Option (SS × (α ⊕ String))} {k : SS → α → Option (SS × β)} {ke : SS → String → Option (SS × β)} {Q : SS × β → Prop} (h : ok t (fun r => OKS r.1 ∧ INV r.1)) (h2 : ok (e1 t k ke) Q) (hk : ∀ X v r, k X v = some r → r.1 = X) (hke : ∀ X E r, ke X E = some r → r.1 = X) : ok (e1 t k ke) (fun r => OI r.1) := by
  obtain ⟨⟨X, s⟩, e, hP⟩ := h
  obtain ⟨r, e2, -⟩ := h2
  refine ⟨r, e2, ?_⟩
  rw [e] at e2
  cases s with
  | inl v =>
    have := hk X v r e2
    rw [this]
    exact hP
  | inr E =>
    have := hke X E r e2
    rw [this]
    exact hP
theorem sm_1 {M : SS} (hM : OKS M) : ok (f_X7_isSound M) (fun r => r.2 = 1 ∧ OKS r.1) := by
  unfold f_X7_isSound
  rw [lq_e]
  have i : IV TT M (u1 M 26 0 9 0) := IV.w1 hM rfl trivial (show (0 : Int32) ≤ (0 : Int32) ∧ (0 : Int32) ≤ (3 : Int32) from ⟨by decide, by decide⟩)
  exact ok_some ⟨rfl, i.oks⟩
theorem q_X6_wipe {X : SS} (hS : OI X) : ok (f_X6_wipe X) (fun r => OI r.1) := ok_imp (s_X6_wipe (A := (fun k i p => (k = 1 ∧ i = 0 ∧ p = 2))) (B := X) X hS.1.self (by simp)) (fun r w => OI.ki hS w.1.oks ⟨fun k i p z => w.1.same (by unfold IC at z; simp; omega), fun v => w.1.same2 (by simp), fun m j => w.1.same3 (by simp)⟩)
theorem q_X6_clear {X : SS} (hS : OI X) : ok (f_X6_clear X) (fun r => OI r.1) := ok_imp (s_X6_clear (A := (fun k i p => (k = 4 ∧ i = 40 ∧ p = 2) ∨ (k = 4 ∧ i = 40 ∧ p = 3))) (B := X) X hS.1.self (by simp) (by simp)) (fun r w => OI.ki hS w.1.oks ⟨fun k i p z => w.1.same (by unfold IC at z; simp; omega), fun v => w.1.same2 (by simp), fun m j => w.1.same3 (by simp)⟩)
theorem q_X6_works {X : SS} (hS : OI X) : ok (f_X6_works X) (fun _ => True) := ok_imp (s_X6_works (A := TT) (B := X) X hS.1) (fun _ _ => trivial)
theorem q_X6_bodies {X : SS} (hS : OI X) : ok (f_X6_bodies X) (fun _ => True) := ok_imp (s_X6_bodies (A := TT) (B := X) X hS.1) (fun _ _ => trivial)
theorem q_X6_checksum {X : SS} (hS : OI X) : ok (f_X6_checksum X) (fun _ => True) := ok_imp (s_X6_checksum (A := TT) (B := X) X hS.1) (fun _ _ => trivial)
theorem q_X6_isSound {X : SS} (hS : OI X) : ok (f_X6_isSound X) (fun r => r.2 = 1 ∧ OI r.1) := sound_1 hS.1 hS.2
theorem q_X7_step {M : SS} (hS : OKS M) (p0 : Int32) (p1 : Int32) : ok (f_X7_step M p0 p1) (fun r => OKS r.1) := ok_imp (s_X7_step (A := TT) (B := M) M hS p0 p1 trivial trivial (fun _ => trivial) (fun _ => trivial) trivial) (fun r w => w.1.oks)
theorem q_X7_wipe {M : SS} (hS : OKS M) : ok (f_X7_wipe M) (fun r => OKS r.1) := ok_imp (s_X7_wipe (A := TT) (B := M) M hS trivial trivial trivial) (fun r w => w.1.oks)
theorem q_X7_number {M : SS} (hS : OKS M) (p0 : Int32) (p1 : Int32) : ok (f_X7_number M p0 p1) (fun r => OKS r.1) := ok_imp (s_X7_number (A := TT) (B := M) M hS p0 p1 trivial trivial trivial (fun _ => trivial) (fun _ => trivial)) (fun r w => w.1.oks)
theorem q_X7_clear {M : SS} (hS : OKS M) : ok (f_X7_clear M) (fun r => OKS r.1) := ok_imp (s_X7_clear (A := TT) (B := M) M hS trivial trivial trivial) (fun r w => w.1.oks)
theorem q_X7_kata {M : SS} (hS : OKS M) (p0 : Int32) : ok (f_X7_kata M p0) (fun r => OKS r.1) := ok_imp (s_X7_kata (A := TT) (B := M) M hS p0 trivial trivial (fun _ => trivial)) (fun r w => w.1.oks)
theorem q_X7_test {M : SS} (hS : OKS M) (p0 : Int32) : ok (f_X7_test M p0) (fun r => OKS r.1) := ok_imp (s_X7_test (A := TT) (B := M) M hS p0 trivial trivial trivial trivial trivial trivial trivial trivial (fun _ => trivial) (fun _ => trivial) (fun _ => trivial) (fun _ => trivial) (fun _ => trivial) (fun _ => trivial) (fun _ => trivial) (fun _ => trivial)) (fun r w => w.1.oks)
theorem q_X7_fix {M : SS} (hS : OKS M) (p0 : Int32) (p1 : Int32) : ok (f_X7_fix M p0 p1) (fun r => OKS r.1) := ok_imp (s_X7_fix (A := TT) (B := M) M hS p0 p1 trivial trivial trivial trivial trivial trivial trivial (fun _ => trivial) (fun _ => trivial) (fun _ => trivial) (fun _ => trivial) (fun _ => trivial) (fun _ => trivial) (fun _ => trivial) (fun _ => trivial)) (fun r w => w.1.oks)
theorem q_X7_tests {M : SS} (hS : OKS M) (p0 : Int32) : ok (f_X7_tests M p0) (fun r => OKS r.1) := ok_imp (s_X7_tests (A := TT) (B := M) M hS p0 trivial) (fun r w => w.1.oks)
theorem q_X7_run {M : SS} (hS : OKS M) (p0 : Int32) (p1 : Int32) : ok (f_X7_run M p0 p1) (fun r => OKS r.1) := ok_imp (s_X7_run (A := TT) (B := M) M hS p0 p1 trivial trivial trivial trivial trivial trivial trivial trivial (fun _ => trivial) (fun _ => trivial) (fun _ => trivial)) (fun r w => w.1.oks)
theorem q_X7_done {M : SS} (hS : OKS M) : ok (f_X7_done M) (fun r => OKS r.1) := ok_imp (s_X7_done (A := TT) (B := M) M hS trivial) (fun r w => w.1.oks)
theorem q_X7_outputs {M : SS} (hS : OKS M) : ok (f_X7_outputs M) (fun r => OKS r.1) := ok_imp (s_X7_outputs (A := TT) (B := M) M hS trivial) (fun r w => w.1.oks)
theorem q_X7_output {M : SS} (hS : OKS M) (p0 : Int32) : ok (f_X7_output M p0) (fun r => OKS r.1) := ok_imp (s_X7_output (A := TT) (B := M) M hS p0 trivial) (fun r w => w.1.oks)
theorem q_X7_depth {M : SS} (hS : OKS M) : ok (f_X7_depth M) (fun r => OKS r.1) := ok_imp (s_X7_depth (A := TT) (B := M) M hS trivial) (fun r w => w.1.oks)
theorem q_X7_member {M : SS} (hS : OKS M) : ok (f_X7_member M) (fun r => OKS r.1) := ok_imp (s_X7_member (A := TT) (B := M) M hS trivial trivial (fun _ => trivial)) (fun r w => w.1.oks)
theorem q_X7_submit {M : SS} (hS : OKS M) (p0 : Int32) (p1 : Int32) : ok (f_X7_submit M p0 p1) (fun r => OKS r.1) := ok_imp (s_X7_submit (A := TT) (B := M) M hS p0 p1 (fun _ => trivial) trivial trivial trivial trivial trivial (fun _ _ => trivial) (fun _ _ => trivial) (fun _ => trivial) (fun _ => trivial) (fun _ => trivial) (fun _ => trivial) (fun _ => trivial) (fun _ => trivial) (fun _ => trivial) (fun _ => trivial) (fun _ => trivial)) (fun r w => w.1.oks)
theorem q_X7_works {M : SS} (hS : OKS M) : ok (f_X7_works M) (fun r => OKS r.1) := ok_imp (s_X7_works (A := TT) (B := M) M hS trivial) (fun r w => w.1.oks)
theorem q_X7_of {M : SS} (hS : OKS M) (p0 : Int32) (p1 : Int32) : ok (f_X7_of M p0 p1) (fun r => OKS r.1) := ok_imp (s_X7_of (A := TT) (B := M) M hS p0 p1 trivial) (fun r w => w.1.oks)
theorem q_X7_state {M : SS} (hS : OKS M) (p0 : Int32) : ok (f_X7_state M p0) (fun r => OKS r.1) := ok_imp (s_X7_state (A := TT) (B := M) M hS p0 trivial) (fun r w => w.1.oks)
theorem q_X7_sum {M : SS} (hS : OKS M) (p0 : Int32) : ok (f_X7_sum M p0) (fun r => OKS r.1) := ok_imp (s_X7_sum (A := TT) (B := M) M hS p0 trivial) (fun r w => w.1.oks)
theorem q_X7_steps {M : SS} (hS : OKS M) (p0 : Int32) (p1 : Int32) : ok (f_X7_steps M p0 p1) (fun r => OKS r.1) := ok_imp (s_X7_steps (A := TT) (B := M) M hS p0 p1 trivial trivial trivial trivial (fun _ => trivial) (fun _ => trivial)) (fun r w => w.1.oks)
theorem q_X7_hasBody {M : SS} (hS : OKS M) (p0 : Int32) : ok (f_X7_hasBody M p0) (fun r => OKS r.1) := ok_imp (s_X7_hasBody (A := TT) (B := M) M hS p0 trivial) (fun r w => w.1.oks)
theorem q_X7_letter {M : SS} (hS : OKS M) (p0 : Int32) (p1 : Int32) : ok (f_X7_letter M p0 p1) (fun r => OKS r.1) := ok_imp (s_X7_letter (A := TT) (B := M) M hS p0 p1 trivial) (fun r w => w.1.oks)
theorem q_X7_drop {M : SS} (hS : OKS M) (p0 : Int32) : ok (f_X7_drop M p0) (fun r => OKS r.1) := ok_imp (s_X7_drop (A := TT) (B := M) M hS p0 trivial trivial trivial trivial trivial trivial (fun _ => trivial) (fun _ => trivial) (fun _ => trivial) (fun _ => trivial)) (fun r w => w.1.oks)
theorem q_X7_capacity {M : SS} (hS : OKS M) (p0 : Int32) : ok (f_X7_capacity M p0) (fun r => OKS r.1) := ok_imp (s_X7_capacity (A := TT) (B := M) M hS p0 trivial trivial trivial trivial trivial (fun _ => trivial) (fun _ => trivial) (fun _ => trivial) (fun _ => trivial) (fun _ => trivial) (fun _ => trivial)) (fun r w => w.1.oks)
theorem q_X7_bodies {M : SS} (hS : OKS M) : ok (f_X7_bodies M) (fun r => OKS r.1) := ok_imp (s_X7_bodies (A := TT) (B := M) M hS trivial) (fun r w => w.1.oks)
theorem q_X7_read {M : SS} (hS : OKS M) (p0 : Int32) (p1 : Int32) : ok (f_X7_read M p0 p1) (fun r => OKS r.1) := ok_imp (s_X7_read (A := TT) (B := M) M hS p0 p1 trivial (fun _ => trivial)) (fun r w => w.1.oks)
theorem q_X7_copy {M : SS} (hS : OKS M) (p0 : Int32) (p1 : Int32) : ok (f_X7_copy M p0 p1) (fun r => OKS r.1) := ok_imp (s_X7_copy (A := TT) (B := M) M hS p0 p1 trivial) (fun r w => w.1.oks)
theorem q_X7_vote {M : SS} (hS : OKS M) (p0 : Int32) (p1 : Int32) (p2 : Int32) : ok (f_X7_vote M p0 p1 p2) (fun r => OKS r.1) := ok_imp (s_X7_vote (A := TT) (B := M) M hS p0 p1 p2 trivial (fun _ => trivial) (fun _ => trivial)) (fun r w => w.1.oks)
theorem q_X7_style {M : SS} (hS : OKS M) (p0 : Int32) (p1 : Int32) : ok (f_X7_style M p0 p1) (fun r => OKS r.1) := ok_imp (s_X7_style (A := TT) (B := M) M hS p0 p1 trivial) (fun r w => w.1.oks)
theorem q_X7_review {M : SS} (hS : OKS M) (p0 : Int32) : ok (f_X7_review M p0) (fun r => OKS r.1) := ok_imp (s_X7_review (A := TT) (B := M) M hS p0 trivial) (fun r w => w.1.oks)
theorem q_X7_best {M : SS} (hS : OKS M) (p0 : Int32) (p1 : Int32) : ok (f_X7_best M p0 p1) (fun r => OKS r.1) := ok_imp (s_X7_best (A := TT) (B := M) M hS p0 p1 trivial) (fun r w => w.1.oks)
theorem q_X7_points {M : SS} (hS : OKS M) (p0 : Int32) : ok (f_X7_points M p0) (fun r => OKS r.1) := ok_imp (s_X7_points (A := TT) (B := M) M hS p0 trivial) (fun r w => w.1.oks)
theorem q_X7_belt {M : SS} (hS : OKS M) (p0 : Int32) : ok (f_X7_belt M p0) (fun r => OKS r.1) := ok_imp (s_X7_belt (A := TT) (B := M) M hS p0 trivial) (fun r w => w.1.oks)
theorem q_X7_honour {M : SS} (hS : OKS M) (p0 : Int32) : ok (f_X7_honour M p0) (fun r => OKS r.1) := ok_imp (s_X7_honour (A := TT) (B := M) M hS p0 trivial) (fun r w => w.1.oks)
theorem q_X7_ranked {M : SS} (hS : OKS M) (p0 : Int32) : ok (f_X7_ranked M p0) (fun r => OKS r.1) := ok_imp (s_X7_ranked (A := TT) (B := M) M hS p0 trivial) (fun r w => w.1.oks)
theorem q_X7_challenge {M : SS} (hS : OKS M) (p0 : Int32) (p1 : Int32) : ok (f_X7_challenge M p0 p1) (fun r => OKS r.1) := ok_imp (s_X7_challenge (A := TT) (B := M) M hS p0 p1 trivial trivial trivial trivial trivial trivial trivial) (fun r w => w.1.oks)
theorem q_X7_give {M : SS} (hS : OKS M) (p0 : Int32) (p1 : Int32) : ok (f_X7_give M p0 p1) (fun r => OKS r.1) := ok_imp (s_X7_give (A := TT) (B := M) M hS p0 p1 trivial trivial trivial trivial (fun _ => trivial) (fun _ => trivial) (fun _ => trivial) (fun _ => trivial) (fun _ => trivial) (fun _ => trivial) (fun _ => trivial)) (fun r w => w.1.oks)
theorem q_X7_answer {M : SS} (hS : OKS M) (p0 : Int32) (p1 : Int32) : ok (f_X7_answer M p0 p1) (fun r => OKS r.1) := ok_imp (s_X7_answer (A := TT) (B := M) M hS p0 p1 trivial trivial trivial trivial (fun _ _ => trivial) (fun _ _ => trivial) trivial (fun _ => trivial) (fun _ => trivial) (fun _ => trivial) (fun _ => trivial) (fun _ => trivial) (fun _ => trivial) (fun _ => trivial)) (fun r w => w.1.oks)
theorem q_X7_open {M : SS} (hS : OKS M) (p0 : Int32) : ok (f_X7_open M p0) (fun r => OKS r.1) := ok_imp (s_X7_open (A := TT) (B := M) M hS p0 trivial) (fun r w => w.1.oks)
theorem q_X7_left {M : SS} (hS : OKS M) (p0 : Int32) : ok (f_X7_left M p0) (fun r => OKS r.1) := ok_imp (s_X7_left (A := TT) (B := M) M hS p0 trivial) (fun r w => w.1.oks)
theorem q_X7_days {M : SS} (hS : OKS M) (p0 : Int32) : ok (f_X7_days M p0) (fun r => OKS r.1) := ok_imp (s_X7_days (A := TT) (B := M) M hS p0 trivial (fun _ => trivial) (fun _ => trivial) (fun _ => trivial)) (fun r w => w.1.oks)
theorem q_X7_checksum {M : SS} (hS : OKS M) : ok (f_X7_checksum M) (fun r => OKS r.1) := ok_imp (s_X7_checksum (A := TT) (B := M) M hS trivial) (fun r w => w.1.oks)
theorem q_X7_standingShare {M : SS} (hS : OKS M) : ok (f_X7_standingShare M) (fun r => OKS r.1) := ok_imp (s_X7_standingShare (A := TT) (B := M) M hS trivial) (fun r w => w.1.oks)
theorem q_X7_meanSteps {M : SS} (hS : OKS M) (p0 : Int32) : ok (f_X7_meanSteps M p0) (fun r => OKS r.1) := ok_imp (s_X7_meanSteps (A := TT) (B := M) M hS p0 trivial trivial trivial trivial (fun _ => trivial) (fun _ => trivial)) (fun r w => w.1.oks)
theorem q_L_step {X : SS} (hS : OI X) (O : SS) (p1 : Int32) (p2 : Int32) : ok (f_L_step X O p1 p2) (fun r => OI r.1) := ok_imp (s_L_step (A := (fun k i p => (k = 1 ∧ i = 0 ∧ p = 2) ∨ (k = 2 ∧ i = 0) ∨ (k = 3 ∧ i = 0))) (B := X) X hS.1.self O p1 p2 (by simp) (by simp) (by simp)) (fun r w => OI.ki hS w.1.oks ⟨fun k i p z => w.1.same (by unfold IC at z; simp; omega), fun v => w.1.same2 (by simp), fun m j => w.1.same3 (by simp)⟩)
theorem q_L_number {X : SS} (hS : OI X) (O : SS) (p1 : Int32) (p2 : Int32) : ok (f_L_number X O p1 p2) (fun r => OI r.1) := ok_imp (s_L_number (A := (fun k i p => (k = 4 ∧ i = 40 ∧ p = 2) ∨ (k = 4 ∧ i = 40 ∧ p = 3) ∨ (k = 5 ∧ i = 40) ∨ (k = 6 ∧ i = 40))) (B := X) X hS.1.self O p1 p2 (by simp) (by simp) (by simp) (by simp)) (fun r w => OI.ki hS w.1.oks ⟨fun k i p z => w.1.same (by unfold IC at z; simp; omega), fun v => w.1.same2 (by simp), fun m j => w.1.same3 (by simp)⟩)
theorem q_L_kata {X : SS} (hS : OI X) (O : SS) (p1 : Int32) : ok (f_L_kata X O p1) (fun r => OI r.1) := ok_imp (s_L_kata (A := (fun k i p => (k = 0 ∧ i = 0 ∧ p = 9) ∨ (k = 7 ∧ p = 2))) (B := X) X hS.1.self O p1 (by simp) (by simp)) (fun r w => OI.ki hS w.1.oks ⟨fun k i p z => w.1.same (by unfold IC at z; simp; omega), fun v => w.1.same2 (by simp), fun m j => w.1.same3 (by simp)⟩)
theorem q_L_test {X : SS} (hS : OI X) (O : SS) (p1 : Int32) : ok (f_L_test X O p1) (fun r => OI r.1) := by
  have h2 := s_L_test (A := TT) (B := X) X hS.1 O p1 trivial (fun _ => trivial) trivial trivial trivial trivial trivial (fun _ => trivial) (fun _ => trivial) (fun _ => trivial) (fun _ => trivial) (fun _ => trivial) (fun _ => trivial) (fun _ => trivial) (fun _ _ => trivial) (fun _ _ => trivial) (fun _ => trivial)
  unfold f_L_test at h2 ⊢
  refine lx_of (test_inv hS.1 hS.2 p1) h2 (fun X v r h => ?_) (fun X E r h => ?_)
  · rw [lq_e] at h
    cases h
    rfl
  · repeat' split at h
    all_goals first | (cases h; done) | (cases h; rfl)
theorem q_L_fix {X : SS} (hS : OI X) (O : SS) (p1 : Int32) (p2 : Int32) : ok (f_L_fix X O p1 p2) (fun r => OI r.1) := by
  have h2 := s_L_fix (A := TT) (B := X) X hS.1 O p1 p2 trivial (fun _ => trivial) trivial trivial trivial trivial trivial (fun _ => trivial) (fun _ => trivial) (fun _ => trivial) (fun _ => trivial) (fun _ => trivial) (fun _ => trivial) (fun _ => trivial) (fun _ _ => trivial) (fun _ _ => trivial)
  unfold f_L_fix at h2 ⊢
  refine lx_of (fix_inv hS.1 hS.2 p1 p2) h2 (fun X v r h => ?_) (fun X E r h => ?_)
  · rw [lq_e] at h
    cases h
    rfl
  · repeat' split at h
    all_goals first | (cases h; done) | (cases h; rfl)
theorem q_L_tests {X : SS} (hS : OI X) (O : SS) (p1 : Int32) : ok (f_L_tests X O p1) (fun _ => True) := ok_imp (s_L_tests (A := TT) (B := X) X hS.1 O p1) (fun _ _ => trivial)
theorem q_L_run {X : SS} (hS : OI X) (O : SS) (p1 : Int32) (p2 : Int32) : ok (f_L_run X O p1 p2) (fun r => OI r.1) := ok_imp (s_L_run (A := (fun k i p => (k = 0 ∧ i = 0 ∧ p = 15) ∨ (k = 16 ∧ i = 0 ∧ p = 4) ∨ (k = 16 ∧ i = 0 ∧ p = 5) ∨ (k = 16 ∧ i = 0 ∧ p = 6) ∨ (k = 16 ∧ i = 0 ∧ p = 7) ∨ (k = 16 ∧ i = 0 ∧ p = 8) ∨ (k = 17 ∧ i = 0) ∨ (k = 18 ∧ i = 0) ∨ (k = 19 ∧ i = 0) ∨ (k = 20 ∧ i = 0))) (B := X) X hS.1.self O p1 p2 (by simp) (by simp) (by simp) (by simp) (by simp) (by simp) (by simp) (by simp) (by simp) (by simp)) (fun r w => OI.ki hS w.1.oks ⟨fun k i p z => w.1.same (by unfold IC at z; simp; omega), fun v => w.1.same2 (by simp), fun m j => w.1.same3 (by simp)⟩)
theorem q_L_done {X : SS} (hS : OI X) (O : SS) : ok (f_L_done X O) (fun _ => True) := ok_imp (s_L_done (A := TT) (B := X) X hS.1 O) (fun _ _ => trivial)
theorem q_L_outputs {X : SS} (hS : OI X) (O : SS) : ok (f_L_outputs X O) (fun _ => True) := ok_imp (s_L_outputs (A := TT) (B := X) X hS.1 O) (fun _ _ => trivial)
theorem q_L_output {X : SS} (hS : OI X) (O : SS) (p1 : Int32) : ok (f_L_output X O p1) (fun _ => True) := ok_imp (s_L_output (A := TT) (B := X) X hS.1 O p1) (fun _ _ => trivial)
theorem q_L_depth {X : SS} (hS : OI X) (O : SS) : ok (f_L_depth X O) (fun _ => True) := ok_imp (s_L_depth (A := TT) (B := X) X hS.1 O) (fun _ _ => trivial)
theorem q_L_member {X : SS} (hS : OI X) (O : SS) : ok (f_L_member X O) (fun r => OI r.1) := ok_imp (s_L_member (A := (fun k i p => (k = 0 ∧ i = 0 ∧ p = 10))) (B := X) X hS.1.self O (by simp)) (fun r w => OI.ki hS w.1.oks ⟨fun k i p z => w.1.same (by unfold IC at z; simp; omega), fun v => w.1.same2 (by simp), fun m j => w.1.same3 (by simp)⟩)
theorem q_L_submit {X : SS} (hS : OI X) (O : SS) (p1 : Int32) (p2 : Int32) : ok (f_L_submit X O p1 p2) (fun r => OI r.1) := by
  have h2 := s_L_submit (A := TT) (B := X) X hS.1 O p1 p2 trivial (fun _ _ => trivial) (fun _ => trivial) (fun _ => trivial) (fun _ => trivial) (fun _ => trivial) (fun _ => trivial) (fun _ => trivial) (fun _ => trivial) (fun _ => trivial) (fun _ _ => trivial) trivial trivial trivial trivial trivial (fun _ => trivial) (fun _ => trivial) (fun _ => trivial) (fun _ _ _ => trivial) (fun _ => trivial) (fun _ _ _ => trivial)
  unfold f_L_submit at h2 ⊢
  refine lx_of (submit_inv hS.1 hS.2 p1 p2) h2 (fun X v r h => ?_) (fun X E r h => ?_)
  · rw [lq_e] at h
    cases h
    rfl
  · repeat' split at h
    all_goals first | (cases h; done) | (cases h; rfl)
theorem q_L_of {X : SS} (hS : OI X) (O : SS) (p1 : Int32) (p2 : Int32) : ok (f_L_of X O p1 p2) (fun _ => True) := ok_imp (s_L_of (A := TT) (B := X) X hS.1 O p1 p2) (fun _ _ => trivial)
theorem q_L_state {X : SS} (hS : OI X) (O : SS) (p1 : Int32) : ok (f_L_state X O p1) (fun _ => True) := ok_imp (s_L_state (A := TT) (B := X) X hS.1 O p1) (fun _ _ => trivial)
theorem q_L_sum {X : SS} (hS : OI X) (O : SS) (p1 : Int32) : ok (f_L_sum X O p1) (fun _ => True) := ok_imp (s_L_sum (A := TT) (B := X) X hS.1 O p1) (fun _ _ => trivial)
theorem q_L_steps {X : SS} (hS : OI X) (O : SS) (p1 : Int32) (p2 : Int32) : ok (f_L_steps X O p1 p2) (fun r => OI r.1) := ok_imp (s_L_steps (A := (fun k i p => (k = 16 ∧ i = 1 ∧ p = 4) ∨ (k = 16 ∧ i = 1 ∧ p = 5) ∨ (k = 16 ∧ i = 1 ∧ p = 6) ∨ (k = 16 ∧ i = 1 ∧ p = 7) ∨ (k = 16 ∧ i = 1 ∧ p = 8) ∨ (k = 17 ∧ i = 1) ∨ (k = 18 ∧ i = 1) ∨ (k = 19 ∧ i = 1) ∨ (k = 20 ∧ i = 1))) (B := X) X hS.1.self O p1 p2 (by simp) (by simp) (by simp) (by simp) (by simp) (by simp) (by simp) (by simp) (by simp)) (fun r w => OI.ki hS w.1.oks ⟨fun k i p z => w.1.same (by unfold IC at z; simp; omega), fun v => w.1.same2 (by simp), fun m j => w.1.same3 (by simp)⟩)
theorem q_L_hasBody {X : SS} (hS : OI X) (O : SS) (p1 : Int32) : ok (f_L_hasBody X O p1) (fun _ => True) := ok_imp (s_L_hasBody (A := TT) (B := X) X hS.1 O p1) (fun _ _ => trivial)
theorem q_L_letter {X : SS} (hS : OI X) (O : SS) (p1 : Int32) (p2 : Int32) : ok (f_L_letter X O p1 p2) (fun _ => True) := ok_imp (s_L_letter (A := TT) (B := X) X hS.1 O p1 p2) (fun _ _ => trivial)
theorem q_L_drop {X : SS} (hS : OI X) (O : SS) (p1 : Int32) : ok (f_L_drop X O p1) (fun r => OI r.1) := by
  have h2 := s_L_drop (A := TT) (B := X) X hS.1 O p1 (fun _ _ => trivial) (fun _ => trivial) (fun _ => trivial) (fun _ => trivial) (fun _ => trivial) (fun _ _ => trivial) trivial trivial trivial trivial trivial (fun _ => trivial) (fun _ => trivial) (fun _ => trivial) (fun _ => trivial)
  unfold f_L_drop at h2 ⊢
  refine lx_of (drop_inv hS.1 hS.2 p1) h2 (fun X v r h => ?_) (fun X E r h => ?_)
  · rw [lq_e] at h
    cases h
    rfl
  · repeat' split at h
    all_goals first | (cases h; done) | (cases h; rfl)
theorem q_L_capacity {X : SS} (hS : OI X) (O : SS) (p1 : Int32) : ok (f_L_capacity X O p1) (fun r => OI r.1) := by
  have h2 := s_L_capacity (A := TT) (B := X) X hS.1 O p1 trivial (fun _ _ => trivial) (fun _ => trivial) (fun _ => trivial) (fun _ => trivial) (fun _ => trivial) (fun _ _ => trivial) trivial trivial trivial trivial trivial (fun _ => trivial) (fun _ => trivial) (fun _ => trivial) (fun _ => trivial)
  unfold f_L_capacity at h2 ⊢
  refine lx_of (capacity_inv hS.1 hS.2 p1) h2 (fun X v r h => ?_) (fun X E r h => ?_)
  · rw [lq_e] at h
    cases h
    rfl
  · repeat' split at h
    all_goals first | (cases h; done) | (cases h; rfl)
theorem q_L_read {X : SS} (hS : OI X) (O : SS) (p1 : Int32) (p2 : Int32) : ok (f_L_read X O p1 p2) (fun r => OI r.1) := by
  have h2 := s_L_read (A := TT) (B := X) X hS.1 O p1 p2 (fun _ _ => trivial) (fun _ _ => trivial) (fun _ _ _ => trivial) (fun _ _ => trivial) (fun _ _ _ => trivial) (fun _ => trivial)
  unfold f_L_read at h2 ⊢
  refine lx_of (read_inv hS.1 hS.2 p1 p2) h2 (fun X v r h => ?_) (fun X E r h => ?_)
  · rw [lq_e] at h
    cases h
    rfl
  · repeat' split at h
    all_goals first | (cases h; done) | (cases h; rfl)
theorem q_L_copy {X : SS} (hS : OI X) (O : SS) (p1 : Int32) (p2 : Int32) : ok (f_L_copy X O p1 p2) (fun _ => True) := ok_imp (s_L_copy (A := TT) (B := X) X hS.1 O p1 p2) (fun _ _ => trivial)
theorem q_L_vote {X : SS} (hS : OI X) (O : SS) (p1 : Int32) (p2 : Int32) (p3 : Int32) : ok (f_L_vote X O p1 p2 p3) (fun r => OI r.1) := by
  have h2 := s_L_vote (A := TT) (B := X) X hS.1 O p1 p2 p3 (fun _ => trivial) (fun _ => trivial) (fun _ => trivial) (fun _ _ => trivial) (fun _ _ => trivial) (fun _ => trivial)
  unfold f_L_vote at h2 ⊢
  refine lx_of (vote_inv hS.1 hS.2 p1 p2 p3) h2 (fun X v r h => ?_) (fun X E r h => ?_)
  · rw [lq_e] at h
    cases h
    rfl
  · repeat' split at h
    all_goals first | (cases h; done) | (cases h; rfl)
theorem q_L_style {X : SS} (hS : OI X) (O : SS) (p1 : Int32) (p2 : Int32) : ok (f_L_style X O p1 p2) (fun _ => True) := ok_imp (s_L_style (A := TT) (B := X) X hS.1 O p1 p2) (fun _ _ => trivial)
theorem q_L_review {X : SS} (hS : OI X) (O : SS) (p1 : Int32) : ok (f_L_review X O p1) (fun _ => True) := ok_imp (s_L_review (A := TT) (B := X) X hS.1 O p1) (fun _ _ => trivial)
theorem q_L_best {X : SS} (hS : OI X) (O : SS) (p1 : Int32) (p2 : Int32) : ok (f_L_best X O p1 p2) (fun r => OI r.1) := ok_imp (s_L_best (A := (fun k i p => (k = 25 ∧ i = 0))) (B := X) X hS.1.self O p1 p2 (by simp)) (fun r w => OI.ki hS w.1.oks ⟨fun k i p z => w.1.same (by unfold IC at z; simp; omega), fun v => w.1.same2 (by simp), fun m j => w.1.same3 (by simp)⟩)
theorem q_L_points {X : SS} (hS : OI X) (O : SS) (p1 : Int32) : ok (f_L_points X O p1) (fun r => OI r.1) := ok_imp (s_L_points (A := (fun k i p => (k = 25 ∧ i = 0))) (B := X) X hS.1.self O p1 (by simp)) (fun r w => OI.ki hS w.1.oks ⟨fun k i p z => w.1.same (by unfold IC at z; simp; omega), fun v => w.1.same2 (by simp), fun m j => w.1.same3 (by simp)⟩)
theorem q_L_belt {X : SS} (hS : OI X) (O : SS) (p1 : Int32) : ok (f_L_belt X O p1) (fun r => OI r.1) := ok_imp (s_L_belt (A := (fun k i p => (k = 25 ∧ i = 0))) (B := X) X hS.1.self O p1 (by simp)) (fun r w => OI.ki hS w.1.oks ⟨fun k i p z => w.1.same (by unfold IC at z; simp; omega), fun v => w.1.same2 (by simp), fun m j => w.1.same3 (by simp)⟩)
theorem q_L_honour {X : SS} (hS : OI X) (O : SS) (p1 : Int32) : ok (f_L_honour X O p1) (fun _ => True) := ok_imp (s_L_honour (A := TT) (B := X) X hS.1 O p1) (fun _ _ => trivial)
theorem q_L_ranked {X : SS} (hS : OI X) (O : SS) (p1 : Int32) : ok (f_L_ranked X O p1) (fun r => OI r.1) := ok_imp (s_L_ranked (A := (fun k i p => (k = 25 ∧ i = 0))) (B := X) X hS.1.self O p1 (by simp)) (fun r w => OI.ki hS w.1.oks ⟨fun k i p z => w.1.same (by unfold IC at z; simp; omega), fun v => w.1.same2 (by simp), fun m j => w.1.same3 (by simp)⟩)
theorem q_L_challenge {X : SS} (hS : OI X) (O : SS) (p1 : Int32) (p2 : Int32) : ok (f_L_challenge X O p1 p2) (fun r => OI r.1) := by
  have h2 := s_L_challenge (A := TT) (B := X) X hS.1 O p1 p2 trivial (fun _ => trivial) (fun _ => trivial) (fun _ => trivial) (fun _ => trivial) (fun _ => trivial)
  unfold f_L_challenge at h2 ⊢
  refine lx_of (challenge_inv hS.1 hS.2 p1 p2) h2 (fun X v r h => ?_) (fun X E r h => ?_)
  · rw [lq_e] at h
    cases h
    rfl
  · repeat' split at h
    all_goals first | (cases h; done) | (cases h; rfl)
theorem q_L_give {X : SS} (hS : OI X) (O : SS) (p1 : Int32) (p2 : Int32) : ok (f_L_give X O p1 p2) (fun r => OI r.1) := by
  have h2 := s_L_give (A := TT) (B := X) X hS.1 O p1 p2 trivial (fun _ _ => trivial) (fun _ => trivial) (fun _ => trivial) (fun _ => trivial) (fun _ => trivial) (fun _ _ => trivial) trivial trivial trivial trivial trivial (fun _ => trivial) (fun _ => trivial) (fun _ => trivial) (fun _ _ _ => trivial) (fun _ => trivial) (fun _ => trivial) (fun _ _ _ => trivial) (fun _ => trivial)
  unfold f_L_give at h2 ⊢
  refine lx_of (give_inv hS.1 hS.2 p1 p2) h2 (fun X v r h => ?_) (fun X E r h => ?_)
  · rw [lq_e] at h
    cases h
    rfl
  · repeat' split at h
    all_goals first | (cases h; done) | (cases h; rfl)
theorem q_L_answer {X : SS} (hS : OI X) (O : SS) (p1 : Int32) (p2 : Int32) : ok (f_L_answer X O p1 p2) (fun r => OI r.1) := by
  have h2 := s_L_answer (A := TT) (B := X) X hS.1 O p1 p2 trivial (fun _ _ => trivial) (fun _ => trivial) (fun _ => trivial) (fun _ => trivial) (fun _ => trivial) (fun _ _ => trivial) trivial trivial trivial trivial trivial (fun _ => trivial) (fun _ => trivial) (fun _ => trivial) (fun _ _ _ => trivial) (fun _ => trivial) (fun _ => trivial) (fun _ _ _ => trivial) (fun _ => trivial)
  unfold f_L_answer at h2 ⊢
  refine lx_of (answer_inv hS.1 hS.2 p1 p2) h2 (fun X v r h => ?_) (fun X E r h => ?_)
  · rw [lq_e] at h
    cases h
    rfl
  · repeat' split at h
    all_goals first | (cases h; done) | (cases h; rfl)
theorem q_L_open {X : SS} (hS : OI X) (O : SS) (p1 : Int32) : ok (f_L_open X O p1) (fun _ => True) := ok_imp (s_L_open (A := TT) (B := X) X hS.1 O p1) (fun _ _ => trivial)
theorem q_L_left {X : SS} (hS : OI X) (O : SS) (p1 : Int32) : ok (f_L_left X O p1) (fun _ => True) := ok_imp (s_L_left (A := TT) (B := X) X hS.1 O p1) (fun _ _ => trivial)
theorem q_L_days {X : SS} (hS : OI X) (O : SS) (p1 : Int32) : ok (f_L_days X O p1) (fun r => OI r.1) := by
  have h2 := s_L_days (A := TT) (B := X) X hS.1 O p1 trivial (fun _ => trivial) (fun _ => trivial) (fun _ => trivial) (fun _ => trivial)
  unfold f_L_days at h2 ⊢
  refine lx_of (days_inv hS.1 hS.2 p1) h2 (fun X v r h => ?_) (fun X E r h => ?_)
  · rw [lq_e] at h
    cases h
    rfl
  · repeat' split at h
    all_goals first | (cases h; done) | (cases h; rfl)
theorem q_L_standingShare {X : SS} (hS : OI X) (O : SS) : ok (f_L_standingShare X O) (fun _ => True) := ok_imp (s_L_standingShare (A := TT) (B := X) X hS.1 O) (fun _ _ => trivial)
theorem q_L_meanSteps {X : SS} (hS : OI X) (O : SS) (p1 : Int32) : ok (f_L_meanSteps X O p1) (fun r => OI r.1) := ok_imp (s_L_meanSteps (A := (fun k i p => (k = 16 ∧ i = 1 ∧ p = 4) ∨ (k = 16 ∧ i = 1 ∧ p = 5) ∨ (k = 16 ∧ i = 1 ∧ p = 6) ∨ (k = 16 ∧ i = 1 ∧ p = 7) ∨ (k = 16 ∧ i = 1 ∧ p = 8) ∨ (k = 17 ∧ i = 1) ∨ (k = 18 ∧ i = 1) ∨ (k = 19 ∧ i = 1) ∨ (k = 20 ∧ i = 1))) (B := X) X hS.1.self O p1 (by simp) (by simp) (by simp) (by simp) (by simp) (by simp) (by simp) (by simp) (by simp)) (fun r w => OI.ki hS w.1.oks ⟨fun k i p z => w.1.same (by unfold IC at z; simp; omega), fun v => w.1.same2 (by simp), fun m j => w.1.same3 (by simp)⟩)