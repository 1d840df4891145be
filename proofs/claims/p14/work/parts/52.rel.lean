theorem w_X6_setTest (X : SS) (hX : OKS X) (p0 : Int32) (ip0 : (0 : Int32) ≤ p0 ∧ p0 ≤ (7 : Int32)) (i2 : Nat) : ok (f_X6_setTest X p0 i2) (fun r => IV (fun k i p => (k = 0 ∧ i = 0 ∧ p = 14) ∨ (k = 12 ∧ p = 11) ∨ (k = 16 ∧ i = 1 ∧ p = 4) ∨ (k = 16 ∧ i = 1 ∧ p = 5) ∨ (k = 16 ∧ i = 1 ∧ p = 6) ∨ (k = 16 ∧ i = 1 ∧ p = 7) ∨ (k = 16 ∧ i = 1 ∧ p = 8) ∨ (k = 17 ∧ i = 1) ∨ (k = 18 ∧ i = 1) ∨ (k = 19 ∧ i = 1) ∨ (k = 20 ∧ i = 1) ∨ (k = 4 ∧ p = 2) ∨ (k = 4 ∧ p = 3) ∨ (k = 4 ∧ p = 4) ∨ (k = 4 ∧ i = 40 ∧ p = 2) ∨ (k = 4 ∧ i = 40 ∧ p = 3) ∨ (k = 5) ∨ (k = 6)) X r.1 ∧ ((r.1.1 4 40 2) = (0 : Int32) ∧ (r.1.1 4 40 3) = (0 : Int32))) := s_X6_setTest (A := (fun k i p => (k = 0 ∧ i = 0 ∧ p = 14) ∨ (k = 12 ∧ p = 11) ∨ (k = 16 ∧ i = 1 ∧ p = 4) ∨ (k = 16 ∧ i = 1 ∧ p = 5) ∨ (k = 16 ∧ i = 1 ∧ p = 6) ∨ (k = 16 ∧ i = 1 ∧ p = 7) ∨ (k = 16 ∧ i = 1 ∧ p = 8) ∨ (k = 17 ∧ i = 1) ∨ (k = 18 ∧ i = 1) ∨ (k = 19 ∧ i = 1) ∨ (k = 20 ∧ i = 1) ∨ (k = 4 ∧ p = 2) ∨ (k = 4 ∧ p = 3) ∨ (k = 4 ∧ p = 4) ∨ (k = 4 ∧ i = 40 ∧ p = 2) ∨ (k = 4 ∧ i = 40 ∧ p = 3) ∨ (k = 5) ∨ (k = 6))) (B := X) X hX.self p0 ip0 i2 (by simp) (by simp) (by simp) (by simp) (by simp) (by simp) (by simp) (by simp) (by simp) (by simp) (by simp) (by simp) (by simp) (by simp) (by simp) (by simp) (by simp) (by simp)
theorem w_X7_puts (M : SS) (hM : OKS M) (p0 : Int32) (ip0 : (0 : Int32) ≤ p0 ∧ p0 ≤ (7 : Int32)) (p1 : Int32) (ip1 : (0 : Int32) ≤ p1 ∧ p1 ≤ (4 : Int32)) : ok (f_X7_puts M p0 p1) (fun r => IV (fun k i p => (k = 26 ∧ i = 0 ∧ p = 1) ∨ (k = 26 ∧ i = 0 ∧ p = 2) ∨ (k = 26 ∧ i = 0 ∧ p = 38) ∨ (k = 26 ∧ i = 0 ∧ p = 39) ∨ (k = 26 ∧ i = 0 ∧ p = 40) ∨ (k = 26 ∧ i = 0 ∧ p = 7) ∨ (k = 34 ∧ i = 0) ∨ (k = 35 ∧ i = 0) ∨ (k = 36 ∧ i = 0) ∨ (k = 37 ∧ i = 0) ∨ (k = 38 ∧ i = 0) ∨ (k = 42 ∧ i = 0) ∨ (k = 53 ∧ i = 0) ∨ (k = 54 ∧ i = 0)) M r.1 ∧ ((r.1.1 26 0 1) = (0 : Int32) ∧ (r.1.1 26 0 2) = (0 : Int32))) := s_X7_puts (A := (fun k i p => (k = 26 ∧ i = 0 ∧ p = 1) ∨ (k = 26 ∧ i = 0 ∧ p = 2) ∨ (k = 26 ∧ i = 0 ∧ p = 38) ∨ (k = 26 ∧ i = 0 ∧ p = 39) ∨ (k = 26 ∧ i = 0 ∧ p = 40) ∨ (k = 26 ∧ i = 0 ∧ p = 7) ∨ (k = 34 ∧ i = 0) ∨ (k = 35 ∧ i = 0) ∨ (k = 36 ∧ i = 0) ∨ (k = 37 ∧ i = 0) ∨ (k = 38 ∧ i = 0) ∨ (k = 42 ∧ i = 0) ∨ (k = 53 ∧ i = 0) ∨ (k = 54 ∧ i = 0))) (B := M) M hM.self p0 ip0 p1 ip1 (by simp) (by simp) (by simp) (by simp) (by simp) (by simp) (by simp) (by simp) (by simp) (by simp) (by simp) (by simp) (by simp) (by simp)
theorem w_X1_execute (X : SS) (hX : OKS X) (i0 : Nat) (i1 : Nat) (i2 : Nat) : ok (f_X1_execute X i0 i1 i2) (fun r => IV (fun k i p => (k = 16 ∧ p = 4) ∨ (k = 16 ∧ p = 5) ∨ (k = 16 ∧ p = 6) ∨ (k = 16 ∧ p = 7) ∨ (k = 16 ∧ p = 8) ∨ (k = 17) ∨ (k = 18) ∨ (k = 19) ∨ (k = 20)) X r.1 ∧ (33 : Int32) ≤ r.2 ∧ r.2 ≤ (122 : Int32)) := s_X1_execute (A := (fun k i p => (k = 16 ∧ p = 4) ∨ (k = 16 ∧ p = 5) ∨ (k = 16 ∧ p = 6) ∨ (k = 16 ∧ p = 7) ∨ (k = 16 ∧ p = 8) ∨ (k = 17) ∨ (k = 18) ∨ (k = 19) ∨ (k = 20))) (B := X) X hX.self i0 i1 i2 (by simp) (by simp) (by simp) (by simp) (by simp) (by simp) (by simp) (by simp) (by simp)
theorem w_X6_passesAll (X : SS) (hX : OKS X) (i1 : Nat) (i2 : Nat) : ok (f_X6_passesAll X i1 i2) (fun r => IV (fun k i p => (k = 16 ∧ i = 1 ∧ p = 4) ∨ (k = 16 ∧ i = 1 ∧ p = 5) ∨ (k = 16 ∧ i = 1 ∧ p = 6) ∨ (k = 16 ∧ i = 1 ∧ p = 7) ∨ (k = 16 ∧ i = 1 ∧ p = 8) ∨ (k = 17 ∧ i = 1) ∨ (k = 18 ∧ i = 1) ∨ (k = 19 ∧ i = 1) ∨ (k = 20 ∧ i = 1)) X r.1 ∧ (0 : Int32) ≤ r.2 ∧ r.2 ≤ (1 : Int32)) := s_X6_passesAll (A := (fun k i p => (k = 16 ∧ i = 1 ∧ p = 4) ∨ (k = 16 ∧ i = 1 ∧ p = 5) ∨ (k = 16 ∧ i = 1 ∧ p = 6) ∨ (k = 16 ∧ i = 1 ∧ p = 7) ∨ (k = 16 ∧ i = 1 ∧ p = 8) ∨ (k = 17 ∧ i = 1) ∨ (k = 18 ∧ i = 1) ∨ (k = 19 ∧ i = 1) ∨ (k = 20 ∧ i = 1))) (B := X) X hX.self i1 i2 (by simp) (by simp) (by simp) (by simp) (by simp) (by simp) (by simp) (by simp) (by simp)
theorem w_X6_makeRoom (X : SS) (hX : OKS X) : ok (f_X6_makeRoom X) (fun r => IV (fun k i p => (k = 1 ∧ 1 ≤ i ∧ p = 2) ∨ (k = 12 ∧ p = 11) ∨ (k = 12 ∧ p = 12) ∨ (k = 12 ∧ p = 13) ∨ (k = 12 ∧ p = 14) ∨ (k = 13) ∨ (k = 16 ∧ i = 1 ∧ p = 4) ∨ (k = 16 ∧ i = 1 ∧ p = 5) ∨ (k = 16 ∧ i = 1 ∧ p = 6) ∨ (k = 16 ∧ i = 1 ∧ p = 7) ∨ (k = 16 ∧ i = 1 ∧ p = 8) ∨ (k = 17 ∧ i = 1) ∨ (k = 18 ∧ i = 1) ∨ (k = 19 ∧ i = 1) ∨ (k = 20 ∧ i = 1)) X r.1 ∧ True) := s_X6_makeRoom (A := (fun k i p => (k = 1 ∧ 1 ≤ i ∧ p = 2) ∨ (k = 12 ∧ p = 11) ∨ (k = 12 ∧ p = 12) ∨ (k = 12 ∧ p = 13) ∨ (k = 12 ∧ p = 14) ∨ (k = 13) ∨ (k = 16 ∧ i = 1 ∧ p = 4) ∨ (k = 16 ∧ i = 1 ∧ p = 5) ∨ (k = 16 ∧ i = 1 ∧ p = 6) ∨ (k = 16 ∧ i = 1 ∧ p = 7) ∨ (k = 16 ∧ i = 1 ∧ p = 8) ∨ (k = 17 ∧ i = 1) ∨ (k = 18 ∧ i = 1) ∨ (k = 19 ∧ i = 1) ∨ (k = 20 ∧ i = 1))) (B := X) X hX.self (by simp) (by simp) (by simp) (by simp) (by simp) (by simp) (by simp) (by simp) (by simp) (by simp) (by simp) (by simp) (by simp) (by simp) (by simp)
theorem w_X5_regain (X : SS) (hX : OKS X) (i0 : Nat) (i1 : Nat) : ok (f_X5_regain X i0 i1) (fun r => IV (fun k i p => (k = 1 ∧ 1 ≤ i ∧ p = 2) ∨ (k = 12 ∧ p = 12) ∨ (k = 2 ∧ 1 ≤ i) ∨ (k = 3 ∧ 1 ≤ i)) X r.1 ∧ True) := s_X5_regain (A := (fun k i p => (k = 1 ∧ 1 ≤ i ∧ p = 2) ∨ (k = 12 ∧ p = 12) ∨ (k = 2 ∧ 1 ≤ i) ∨ (k = 3 ∧ 1 ≤ i))) (B := X) X hX.self i0 i1 (by simp) (by simp) (by simp) (by simp)
theorem w_X7_passes (M : SS) (hM : OKS M) (p0 : Int32) (ip0 : (0 : Int32) ≤ p0 ∧ p0 ≤ (40 : Int32)) (p1 : Int32) (ip1 : (0 : Int32) ≤ p1 ∧ p1 ≤ (7 : Int32)) : ok (f_X7_passes M p0 p1) (fun r => IV (fun k i p => (k = 26 ∧ i = 0 ∧ p = 38) ∨ (k = 26 ∧ i = 0 ∧ p = 39) ∨ (k = 26 ∧ i = 0 ∧ p = 40) ∨ (k = 53 ∧ i = 0) ∨ (k = 54 ∧ i = 0)) M r.1 ∧ (0 : Int32) ≤ r.2 ∧ r.2 ≤ (1 : Int32)) := s_X7_passes (A := (fun k i p => (k = 26 ∧ i = 0 ∧ p = 38) ∨ (k = 26 ∧ i = 0 ∧ p = 39) ∨ (k = 26 ∧ i = 0 ∧ p = 40) ∨ (k = 53 ∧ i = 0) ∨ (k = 54 ∧ i = 0))) (B := M) M hM.self p0 ip0 p1 ip1 (by simp) (by simp) (by simp) (by simp) (by simp)
theorem w_X7_copies (M : SS) (hM : OKS M) (p0 : Int32) (ip0 : (40 : Int32) ≤ p0 ∧ p0 ≤ (40 : Int32)) (p1 : Int32) (ip1 : (0 : Int32) ≤ p1 ∧ p1 ≤ (39 : Int32)) : ok (f_X7_copies M p0 p1) (fun r => IV (fun k i p => (k = 27 ∧ i = 0 ∧ p < 960) ∨ (k = 28 ∧ i = 0 ∧ p < 960) ∨ (k = 29 ∧ i = 0)) M r.1 ∧ True) := s_X7_copies (A := (fun k i p => (k = 27 ∧ i = 0 ∧ p < 960) ∨ (k = 28 ∧ i = 0 ∧ p < 960) ∨ (k = 29 ∧ i = 0))) (B := M) M hM.self p0 ip0 p1 ip1 (by simp) (by simp) (by simp)
theorem w_X7_makesRoom (M : SS) (hM : OKS M) : ok (f_X7_makesRoom M) (fun r => IV (fun k i p => (k = 26 ∧ i = 0 ∧ p = 38) ∨ (k = 26 ∧ i = 0 ∧ p = 39) ∨ (k = 26 ∧ i = 0 ∧ p = 40) ∨ (k = 42 ∧ i = 0) ∨ (k = 43 ∧ i = 0) ∨ (k = 44 ∧ i = 0) ∨ (k = 45 ∧ i = 0) ∨ (k = 53 ∧ i = 0) ∨ (k = 54 ∧ i = 0)) M r.1 ∧ True) := s_X7_makesRoom (A := (fun k i p => (k = 26 ∧ i = 0 ∧ p = 38) ∨ (k = 26 ∧ i = 0 ∧ p = 39) ∨ (k = 26 ∧ i = 0 ∧ p = 40) ∨ (k = 42 ∧ i = 0) ∨ (k = 43 ∧ i = 0) ∨ (k = 44 ∧ i = 0) ∨ (k = 45 ∧ i = 0) ∨ (k = 53 ∧ i = 0) ∨ (k = 54 ∧ i = 0))) (B := M) M hM.self (by simp) (by simp) (by simp) (by simp) (by simp) (by simp) (by simp) (by simp) (by simp)
theorem w_X6_submit (X : SS) (hX : OKS X) (p0 : Int32) (p1 : Int32) : ok (f_X6_submit X p0 p1) (fun r => IV (fun k i p => (k = 0 ∧ i = 0 ∧ p = 11) ∨ (k = 1 ∧ 1 ≤ i ∧ p = 2) ∨ (k = 112 ∧ p = 10) ∨ (k = 12 ∧ p = 11) ∨ (k = 12 ∧ p = 12) ∨ (k = 12 ∧ p = 13) ∨ (k = 12 ∧ p = 14) ∨ (k = 12 ∧ p = 7) ∨ (k = 12 ∧ p = 8) ∨ (k = 12 ∧ p = 9) ∨ (k = 13) ∨ (k = 16 ∧ i = 1 ∧ p = 4) ∨ (k = 16 ∧ i = 1 ∧ p = 5) ∨ (k = 16 ∧ i = 1 ∧ p = 6) ∨ (k = 16 ∧ i = 1 ∧ p = 7) ∨ (k = 16 ∧ i = 1 ∧ p = 8) ∨ (k = 17 ∧ i = 1) ∨ (k = 18 ∧ i = 1) ∨ (k = 19 ∧ i = 1) ∨ (k = 2 ∧ 1 ≤ i) ∨ (k = 20 ∧ i = 1) ∨ (k = 3 ∧ 1 ≤ i)) X r.1 ∧ se (fun v => ((-1) : Int32) ≤ v ∧ v ≤ (39 : Int32)) (fun E => E = "java/lang/IllegalStateException" ∨ E = "java/lang/IndexOutOfBoundsException" ∨ E = "java/lang/UnsupportedOperationException") r.2) := s_X6_submit (A := (fun k i p => (k = 0 ∧ i = 0 ∧ p = 11) ∨ (k = 1 ∧ 1 ≤ i ∧ p = 2) ∨ (k = 112 ∧ p = 10) ∨ (k = 12 ∧ p = 11) ∨ (k = 12 ∧ p = 12) ∨ (k = 12 ∧ p = 13) ∨ (k = 12 ∧ p = 14) ∨ (k = 12 ∧ p = 7) ∨ (k = 12 ∧ p = 8) ∨ (k = 12 ∧ p = 9) ∨ (k = 13) ∨ (k = 16 ∧ i = 1 ∧ p = 4) ∨ (k = 16 ∧ i = 1 ∧ p = 5) ∨ (k = 16 ∧ i = 1 ∧ p = 6) ∨ (k = 16 ∧ i = 1 ∧ p = 7) ∨ (k = 16 ∧ i = 1 ∧ p = 8) ∨ (k = 17 ∧ i = 1) ∨ (k = 18 ∧ i = 1) ∨ (k = 19 ∧ i = 1) ∨ (k = 2 ∧ 1 ≤ i) ∨ (k = 20 ∧ i = 1) ∨ (k = 3 ∧ 1 ≤ i))) (B := X) X hX.self p0 p1 (by simp) (by simp) (by simp) (by simp) (by simp) (by simp) (by simp) (by simp) (by simp) (by simp) (by simp) (by simp) (by simp) (by simp) (by simp) (by simp) (by simp) (by simp) (by simp) (by simp) (by simp) (by simp)
theorem w_X7_submit (M : SS) (hM : OKS M) (p0 : Int32) (p1 : Int32) : ok (f_X7_submit M p0 p1) (fun r => IV (fun k i p => (k = 141 ∧ i = 0) ∨ (k = 26 ∧ i = 0 ∧ p = 38) ∨ (k = 26 ∧ i = 0 ∧ p = 39) ∨ (k = 26 ∧ i = 0 ∧ p = 40) ∨ (k = 26 ∧ i = 0 ∧ p = 5) ∨ (k = 26 ∧ i = 0 ∧ p = 9) ∨ (k = 27 ∧ i = 0 ∧ p < 960) ∨ (k = 28 ∧ i = 0 ∧ p < 960) ∨ (k = 29 ∧ i = 0) ∨ (k = 39 ∧ i = 0) ∨ (k = 40 ∧ i = 0) ∨ (k = 42 ∧ i = 0) ∨ (k = 43 ∧ i = 0) ∨ (k = 44 ∧ i = 0) ∨ (k = 45 ∧ i = 0) ∨ (k = 53 ∧ i = 0) ∨ (k = 54 ∧ i = 0)) M r.1 ∧ True) := s_X7_submit (A := (fun k i p => (k = 141 ∧ i = 0) ∨ (k = 26 ∧ i = 0 ∧ p = 38) ∨ (k = 26 ∧ i = 0 ∧ p = 39) ∨ (k = 26 ∧ i = 0 ∧ p = 40) ∨ (k = 26 ∧ i = 0 ∧ p = 5) ∨ (k = 26 ∧ i = 0 ∧ p = 9) ∨ (k = 27 ∧ i = 0 ∧ p < 960) ∨ (k = 28 ∧ i = 0 ∧ p < 960) ∨ (k = 29 ∧ i = 0) ∨ (k = 39 ∧ i = 0) ∨ (k = 40 ∧ i = 0) ∨ (k = 42 ∧ i = 0) ∨ (k = 43 ∧ i = 0) ∨ (k = 44 ∧ i = 0) ∨ (k = 45 ∧ i = 0) ∨ (k = 53 ∧ i = 0) ∨ (k = 54 ∧ i = 0))) (B := M) M hM.self p0 p1 (by simp) (by simp) (by simp) (by simp) (by simp) (by simp) (by simp) (by simp) (by simp) (by simp) (by simp) (by simp) (by simp) (by simp) (by simp) (by simp) (by simp)
theorem v_L_step {X : SS} (hX : OKS X) (O : SS) (p1 : Int32) (p2 : Int32) : ok (f_L_step X O p1 p2) (fun r => OKS r.1) := ok_imp (s_L_step (A := TT) (B := X) X hX O p1 p2 trivial (fun _ => trivial) (fun _ => trivial)) (fun r w => w.1.oks)
theorem v_X7_step {M : SS} (hM : OKS M) (p0 : Int32) (p1 : Int32) : ok (f_X7_step M p0 p1) (fun r => OKS r.1) := ok_imp (s_X7_step (A := TT) (B := M) M hM p0 p1 trivial trivial (fun _ => trivial) (fun _ => trivial) trivial) (fun r w => w.1.oks)
theorem v_X6_wipe {X : SS} (hX : OKS X)  : ok (f_X6_wipe X) (fun r => OKS r.1) := ok_imp (s_X6_wipe (A := TT) (B := X) X hX trivial) (fun r w => w.1.oks)
theorem v_X7_wipe {M : SS} (hM : OKS M)  : ok (f_X7_wipe M) (fun r => OKS r.1) := ok_imp (s_X7_wipe (A := TT) (B := M) M hM trivial trivial trivial) (fun r w => w.1.oks)
theorem v_L_number {X : SS} (hX : OKS X) (O : SS) (p1 : Int32) (p2 : Int32) : ok (f_L_number X O p1 p2) (fun r => OKS r.1) := ok_imp (s_L_number (A := TT) (B := X) X hX O p1 p2 trivial trivial (fun _ => trivial) (fun _ => trivial)) (fun r w => w.1.oks)
theorem v_X7_number {M : SS} (hM : OKS M) (p0 : Int32) (p1 : Int32) : ok (f_X7_number M p0 p1) (fun r => OKS r.1) := ok_imp (s_X7_number (A := TT) (B := M) M hM p0 p1 trivial trivial trivial (fun _ => trivial) (fun _ => trivial)) (fun r w => w.1.oks)
theorem v_X6_clear {X : SS} (hX : OKS X)  : ok (f_X6_clear X) (fun r => OKS r.1) := ok_imp (s_X6_clear (A := TT) (B := X) X hX trivial trivial) (fun r w => w.1.oks)
theorem v_X7_clear {M : SS} (hM : OKS M)  : ok (f_X7_clear M) (fun r => OKS r.1) := ok_imp (s_X7_clear (A := TT) (B := M) M hM trivial trivial trivial) (fun r w => w.1.oks)
theorem v_L_kata {X : SS} (hX : OKS X) (O : SS) (p1 : Int32) : ok (f_L_kata X O p1) (fun r => OKS r.1) := ok_imp (s_L_kata (A := TT) (B := X) X hX O p1 trivial (fun _ => trivial)) (fun r w => w.1.oks)
theorem v_X7_kata {M : SS} (hM : OKS M) (p0 : Int32) : ok (f_X7_kata M p0) (fun r => OKS r.1) := ok_imp (s_X7_kata (A := TT) (B := M) M hM p0 trivial trivial (fun _ => trivial)) (fun r w => w.1.oks)
theorem v_L_test {X : SS} (hX : OKS X) (O : SS) (p1 : Int32) : ok (f_L_test X O p1) (fun r => OKS r.1) := ok_imp (s_L_test (A := TT) (B := X) X hX O p1 trivial (fun _ => trivial) trivial trivial trivial trivial trivial (fun _ => trivial) (fun _ => trivial) (fun _ => trivial) (fun _ => trivial) (fun _ => trivial) (fun _ => trivial) (fun _ => trivial) (fun _ _ => trivial) (fun _ _ => trivial) (fun _ => trivial)) (fun r w => w.1.oks)
theorem v_X7_test {M : SS} (hM : OKS M) (p0 : Int32) : ok (f_X7_test M p0) (fun r => OKS r.1) := ok_imp (s_X7_test (A := TT) (B := M) M hM p0 trivial trivial trivial trivial trivial trivial trivial trivial (fun _ => trivial) (fun _ => trivial) (fun _ => trivial) (fun _ => trivial) (fun _ => trivial) (fun _ => trivial) (fun _ => trivial) (fun _ => trivial)) (fun r w => w.1.oks)
theorem v_L_fix {X : SS} (hX : OKS X) (O : SS) (p1 : Int32) (p2 : Int32) : ok (f_L_fix X O p1 p2) (fun r => OKS r.1) := ok_imp (s_L_fix (A := TT) (B := X) X hX O p1 p2 trivial (fun _ => trivial) trivial trivial trivial trivial trivial (fun _ => trivial) (fun _ => trivial) (fun _ => trivial) (fun _ => trivial) (fun _ => trivial) (fun _ => trivial) (fun _ => trivial) (fun _ _ => trivial) (fun _ _ => trivial)) (fun r w => w.1.oks)
theorem v_X7_fix {M : SS} (hM : OKS M) (p0 : Int32) (p1 : Int32) : ok (f_X7_fix M p0 p1) (fun r => OKS r.1) := ok_imp (s_X7_fix (A := TT) (B := M) M hM p0 p1 trivial trivial trivial trivial trivial trivial trivial (fun _ => trivial) (fun _ => trivial) (fun _ => trivial) (fun _ => trivial) (fun _ => trivial) (fun _ => trivial) (fun _ => trivial) (fun _ => trivial)) (fun r w => w.1.oks)
theorem v_L_member {X : SS} (hX : OKS X) (O : SS) : ok (f_L_member X O) (fun r => OKS r.1) := ok_imp (s_L_member (A := TT) (B := X) X hX O trivial) (fun r w => w.1.oks)
theorem v_X7_member {M : SS} (hM : OKS M)  : ok (f_X7_member M) (fun r => OKS r.1) := ok_imp (s_X7_member (A := TT) (B := M) M hM trivial trivial (fun _ => trivial)) (fun r w => w.1.oks)
theorem v_X7_tests {M : SS} (hM : OKS M) (p0 : Int32) : ok (f_X7_tests M p0) (fun r => OKS r.1) := ok_imp (s_X7_tests (A := TT) (B := M) M hM p0 trivial) (fun r w => w.1.oks)
theorem v_L_submit {X : SS} (hX : OKS X) (O : SS) (p1 : Int32) (p2 : Int32) : ok (f_L_submit X O p1 p2) (fun r => OKS r.1) := ok_imp (s_L_submit (A := TT) (B := X) X hX O p1 p2 trivial (fun _ _ => trivial) (fun _ => trivial) (fun _ => trivial) (fun _ => trivial) (fun _ => trivial) (fun _ => trivial) (fun _ => trivial) (fun _ => trivial) (fun _ => trivial) (fun _ _ => trivial) trivial trivial trivial trivial trivial (fun _ => trivial) (fun _ => trivial) (fun _ => trivial) (fun _ _ _ => trivial) (fun _ => trivial) (fun _ _ _ => trivial)) (fun r w => w.1.oks)
theorem v_X7_submit {M : SS} (hM : OKS M) (p0 : Int32) (p1 : Int32) : ok (f_X7_submit M p0 p1) (fun r => OKS r.1) := ok_imp (s_X7_submit (A := TT) (B := M) M hM p0 p1 (fun _ => trivial) trivial trivial trivial trivial trivial (fun _ _ => trivial) (fun _ _ => trivial) (fun _ => trivial) (fun _ => trivial) (fun _ => trivial) (fun _ => trivial) (fun _ => trivial) (fun _ => trivial) (fun _ => trivial) (fun _ => trivial) (fun _ => trivial)) (fun r w => w.1.oks)
theorem v_L_run {X : SS} (hX : OKS X) (O : SS) (p1 : Int32) (p2 : Int32) : ok (f_L_run X O p1 p2) (fun r => OKS r.1) := ok_imp (s_L_run (A := TT) (B := X) X hX O p1 p2 trivial trivial trivial trivial trivial trivial (fun _ => trivial) (fun _ => trivial) (fun _ => trivial) (fun _ => trivial)) (fun r w => w.1.oks)
theorem v_X7_run {M : SS} (hM : OKS M) (p0 : Int32) (p1 : Int32) : ok (f_X7_run M p0 p1) (fun r => OKS r.1) := ok_imp (s_X7_run (A := TT) (B := M) M hM p0 p1 trivial trivial trivial trivial trivial trivial trivial trivial (fun _ => trivial) (fun _ => trivial) (fun _ => trivial)) (fun r w => w.1.oks)
theorem v_X7_done {M : SS} (hM : OKS M)  : ok (f_X7_done M) (fun r => OKS r.1) := ok_imp (s_X7_done (A := TT) (B := M) M hM trivial) (fun r w => w.1.oks)
theorem v_X7_outputs {M : SS} (hM : OKS M)  : ok (f_X7_outputs M) (fun r => OKS r.1) := ok_imp (s_X7_outputs (A := TT) (B := M) M hM trivial) (fun r w => w.1.oks)
theorem v_X7_output {M : SS} (hM : OKS M) (p0 : Int32) : ok (f_X7_output M p0) (fun r => OKS r.1) := ok_imp (s_X7_output (A := TT) (B := M) M hM p0 trivial) (fun r w => w.1.oks)
theorem v_X7_depth {M : SS} (hM : OKS M)  : ok (f_X7_depth M) (fun r => OKS r.1) := ok_imp (s_X7_depth (A := TT) (B := M) M hM trivial) (fun r w => w.1.oks)
theorem v_X7_works {M : SS} (hM : OKS M)  : ok (f_X7_works M) (fun r => OKS r.1) := ok_imp (s_X7_works (A := TT) (B := M) M hM trivial) (fun r w => w.1.oks)
theorem v_X7_sum {M : SS} (hM : OKS M) (p0 : Int32) : ok (f_X7_sum M p0) (fun r => OKS r.1) := ok_imp (s_X7_sum (A := TT) (B := M) M hM p0 trivial) (fun r w => w.1.oks)
/-! class and reference side by side -/
def CXM (X M : SS) : Prop := X.1 1 0 2 = M.1 26 0 0 ∧ X.1 4 40 2 = M.1 26 0 1 ∧ X.1 4 40 3 = M.1 26 0 2 ∧ X.1 0 0 9 = M.1 26 0 3 ∧ X.1 0 0 10 = M.1 26 0 4 ∧ ∀ i : Nat, X.1 7 i 1 = M.1 33 0 i
/-! what stands in the typed steps, the typed numbers, the tests, the works' sums, the last run -/
theorem up_21 {X : SS} {k i p : Nat} {x : Int32} : (u1 X k i p x).2.1 = X.2.1 := rfl
def CT1 (X M : SS) : Prop := ∀ a : Nat, a < (X.1 1 0 2).toNatClampNeg → X.1 2 0 a = M.1 27 0 (960 + a) ∧ X.1 3 0 a = M.1 28 0 (960 + a)
def CT2 (X M : SS) : Prop := (∀ j : Nat, j < (X.1 4 40 2).toNatClampNeg → X.1 5 40 j = M.1 30 0 j) ∧ ∀ j : Nat, j < (X.1 4 40 3).toNatClampNeg → X.1 6 40 j = M.1 31 0 j
def CT3 (X M : SS) : Prop := ∀ t : Nat, t < 40 → X.1 4 t 2 = M.1 34 0 t ∧ X.1 4 t 3 = M.1 35 0 t ∧ (∀ j : Nat, j < (X.1 4 t 2).toNatClampNeg → X.1 5 t j = M.1 36 0 (4 * t + j)) ∧ ∀ j : Nat, j < (X.1 4 t 3).toNatClampNeg → X.1 6 t j = M.1 37 0 (6 * t + j)
def CT4 (X M : SS) : Prop := X.1 0 0 11 = M.1 26 0 5 ∧ ∀ w : Nat, w < (X.1 0 0 11).toNatClampNeg → X.2.1 12 w 10 = M.2.1 41 0 w
def CT5 (X M : SS) : Prop := X.1 0 0 15 = M.1 26 0 41 ∧ (¬ X.1 0 0 15 = 0 → X.1 16 0 4 = M.1 26 0 42 ∧ X.1 16 0 5 = M.1 26 0 43 ∧ X.1 16 0 6 = M.1 26 0 44 ∧ ∀ j : Nat, j < (X.1 16 0 5).toNatClampNeg → X.1 18 0 j = M.1 55 0 j)
def CT (X M : SS) : Prop := CT1 X M ∧ CT2 X M ∧ CT3 X M ∧ CT4 X M ∧ CT5 X M
theorem CT1.k {X M X2 M2 : SS} (h : CT1 X M) (x0 : X2.1 1 0 2 = X.1 1 0 2) (x1 : ∀ a : Nat, X2.1 2 0 a = X.1 2 0 a) (x2 : ∀ a : Nat, X2.1 3 0 a = X.1 3 0 a) (m1 : ∀ a : Nat, 960 ≤ a → M2.1 27 0 a = M.1 27 0 a) (m2 : ∀ a : Nat, 960 ≤ a → M2.1 28 0 a = M.1 28 0 a) : CT1 X2 M2 := by
  intro a ha
  rw [x0] at ha
  rw [x1, x2, m1 _ (by omega), m2 _ (by omega)]
  exact h a ha
theorem CT2.k {X M X2 M2 : SS} (h : CT2 X M) (x1 : X2.1 4 40 2 = X.1 4 40 2) (x2 : X2.1 4 40 3 = X.1 4 40 3) (x3 : ∀ j : Nat, X2.1 5 40 j = X.1 5 40 j) (x4 : ∀ j : Nat, X2.1 6 40 j = X.1 6 40 j) (m1 : ∀ j : Nat, M2.1 30 0 j = M.1 30 0 j) (m2 : ∀ j : Nat, M2.1 31 0 j = M.1 31 0 j) : CT2 X2 M2 := by
  unfold CT2
  simp only [x1, x2, x3, x4, m1, m2]
  exact h
theorem CT3.k {X M X2 M2 : SS} (h : CT3 X M) (x1 : ∀ t : Nat, t < 40 → X2.1 4 t 2 = X.1 4 t 2) (x2 : ∀ t : Nat, t < 40 → X2.1 4 t 3 = X.1 4 t 3) (x3 : ∀ t j : Nat, t < 40 → X2.1 5 t j = X.1 5 t j) (x4 : ∀ t j : Nat, t < 40 → X2.1 6 t j = X.1 6 t j) (m1 : ∀ j : Nat, M2.1 34 0 j = M.1 34 0 j) (m2 : ∀ j : Nat, M2.1 35 0 j = M.1 35 0 j) (m3 : ∀ j : Nat, M2.1 36 0 j = M.1 36 0 j) (m4 : ∀ j : Nat, M2.1 37 0 j = M.1 37 0 j) : CT3 X2 M2 := by
  intro t ht_
  simp only [x1 t ht_, x2 t ht_, x3 t _ ht_, x4 t _ ht_, m1, m2, m3, m4]
  exact h t ht_
theorem CT4.k {X M X2 M2 : SS} (h : CT4 X M) (x1 : X2.1 0 0 11 = X.1 0 0 11) (x2 : ∀ w : Nat, X2.2.1 12 w 10 = X.2.1 12 w 10) (m1 : M2.1 26 0 5 = M.1 26 0 5) (m2 : ∀ w : Nat, M2.2.1 41 0 w = M.2.1 41 0 w) : CT4 X2 M2 := by
  unfold CT4
  simp only [x1, x2, m1, m2]
  exact h
theorem CT5.k {X M X2 M2 : SS} (h : CT5 X M) (x0 : X2.1 0 0 15 = X.1 0 0 15) (x1 : X2.1 16 0 4 = X.1 16 0 4) (x2 : X2.1 16 0 5 = X.1 16 0 5) (x3 : X2.1 16 0 6 = X.1 16 0 6) (x4 : ∀ j : Nat, X2.1 18 0 j = X.1 18 0 j) (m0 : M2.1 26 0 41 = M.1 26 0 41) (m1 : M2.1 26 0 42 = M.1 26 0 42) (m2 : M2.1 26 0 43 = M.1 26 0 43) (m3 : M2.1 26 0 44 = M.1 26 0 44) (m4 : ∀ j : Nat, M2.1 55 0 j = M.1 55 0 j) : CT5 X2 M2 := by
  unfold CT5
  simp only [x0, x1, x2, x3, x4, m0, m1, m2, m3, m4]
  exact h
def kX (X X2 : SS) : Prop := X2.1 1 0 2 = X.1 1 0 2 ∧ (∀ a : Nat, X2.1 2 0 a = X.1 2 0 a) ∧ (∀ a : Nat, X2.1 3 0 a = X.1 3 0 a) ∧ X2.1 4 40 2 = X.1 4 40 2 ∧ X2.1 4 40 3 = X.1 4 40 3 ∧ (∀ t : Nat, X2.1 4 t 2 = X.1 4 t 2) ∧ (∀ t : Nat, X2.1 4 t 3 = X.1 4 t 3) ∧ (∀ t j : Nat, X2.1 5 t j = X.1 5 t j) ∧ (∀ t j : Nat, X2.1 6 t j = X.1 6 t j) ∧ X2.1 0 0 11 = X.1 0 0 11 ∧ (∀ w : Nat, X2.2.1 12 w 10 = X.2.1 12 w 10) ∧ X2.1 0 0 15 = X.1 0 0 15 ∧ X2.1 16 0 4 = X.1 16 0 4 ∧ X2.1 16 0 5 = X.1 16 0 5 ∧ X2.1 16 0 6 = X.1 16 0 6 ∧ ∀ j : Nat, X2.1 18 0 j = X.1 18 0 j
def kM (M M2 : SS) : Prop := (∀ a : Nat, 960 ≤ a → M2.1 27 0 a = M.1 27 0 a) ∧ (∀ a : Nat, 960 ≤ a → M2.1 28 0 a = M.1 28 0 a) ∧ (∀ j : Nat, M2.1 30 0 j = M.1 30 0 j) ∧ (∀ j : Nat, M2.1 31 0 j = M.1 31 0 j) ∧ (∀ j : Nat, M2.1 34 0 j = M.1 34 0 j) ∧ (∀ j : Nat, M2.1 35 0 j = M.1 35 0 j) ∧ (∀ j : Nat, M2.1 36 0 j = M.1 36 0 j) ∧ (∀ j : Nat, M2.1 37 0 j = M.1 37 0 j) ∧ M2.1 26 0 5 = M.1 26 0 5 ∧ (∀ w : Nat, M2.2.1 41 0 w = M.2.1 41 0 w) ∧ M2.1 26 0 41 = M.1 26 0 41 ∧ M2.1 26 0 42 = M.1 26 0 42 ∧ M2.1 26 0 43 = M.1 26 0 43 ∧ M2.1 26 0 44 = M.1 26 0 44 ∧ ∀ j : Nat, M2.1 55 0 j = M.1 55 0 j
theorem CT.step {X M X2 M2 : SS} (h : CT X M) (hx : kX X X2) (hm : kM M M2) : CT X2 M2 := by
  obtain ⟨x0, x1, x2, x3, x4, x5, x6, x7, x8, x9, x10, x11, x12, x13, x14, x15⟩ := hx
  obtain ⟨m1, m2, m3, m4, m5, m6, m7, m8, m9, m10, m11, m12, m13, m14, m15⟩ := hm
  exact ⟨h.1.k x0 x1 x2 m1 m2, h.2.1.k x3 x4 (x7 40) (x8 40) m3 m4, h.2.2.1.k (fun t _ => x5 t) (fun t _ => x6 t) (fun t j _ => x7 t j) (fun t j _ => x8 t j) m5 m6 m7 m8, h.2.2.2.1.k x9 x10 m9 m10, h.2.2.2.2.k x11 x12 x13 x14 x15 m11 m12 m13 m14 m15⟩
theorem kX.refl (X : SS) : kX X X := ⟨rfl, fun _ => rfl, fun _ => rfl, rfl, rfl, fun _ => rfl, fun _ => rfl, fun _ _ => rfl, fun _ _ => rfl, rfl, fun _ => rfl, rfl, rfl, rfl, rfl, fun _ => rfl⟩
theorem kM.refl (M : SS) : kM M M := ⟨fun _ _ => rfl, fun _ _ => rfl, fun _ => rfl, fun _ => rfl, fun _ => rfl, fun _ => rfl, fun _ => rfl, fun _ => rfl, rfl, fun _ => rfl, rfl, rfl, rfl, rfl, fun _ => rfl⟩
def REL (X M : SS) : Prop := OKS X ∧ OKS M ∧ CXM X M ∧ CT X M
def cXr (X X2 : SS) : Prop := X2.1 1 0 2 = X.1 1 0 2 ∧ X2.1 4 40 2 = X.1 4 40 2 ∧ X2.1 4 40 3 = X.1 4 40 3 ∧ X2.1 0 0 9 = X.1 0 0 9 ∧ X2.1 0 0 10 = X.1 0 0 10 ∧ ∀ i : Nat, X2.1 7 i 1 = X.1 7 i 1
def cMr (M M2 : SS) : Prop := M2.1 26 0 0 = M.1 26 0 0 ∧ M2.1 26 0 1 = M.1 26 0 1 ∧ M2.1 26 0 2 = M.1 26 0 2 ∧ M2.1 26 0 3 = M.1 26 0 3 ∧ M2.1 26 0 4 = M.1 26 0 4 ∧ ∀ i : Nat, M2.1 33 0 i = M.1 33 0 i
def RX (X X2 : SS) : Prop := OKS X2 ∧ cXr X X2 ∧ kX X X2
def RM (M M2 : SS) : Prop := OKS M2 ∧ cMr M M2 ∧ kM M M2
theorem RX.refl {X : SS} (h : OKS X) : RX X X := ⟨h, ⟨rfl, rfl, rfl, rfl, rfl, fun _ => rfl⟩, kX.refl X⟩
theorem CXM.step {X M X2 M2 : SS} (h : CXM X M) (hx : cXr X X2) (hm : cMr M M2) : CXM X2 M2 := by
  obtain ⟨c1, c2, c3, c4, c5, c6⟩ := h
  obtain ⟨x1, x2, x3, x4, x5, x6⟩ := hx
  obtain ⟨m1, m2, m3, m4, m5, m6⟩ := hm
  exact ⟨by rw [x1, m1, c1], by rw [x2, m2, c2], by rw [x3, m3, c3], by rw [x4, m4, c4], by rw [x5, m5, c5], fun i => by rw [x6, m6, c6]⟩
theorem REL.step {X M X2 M2 : SS} (h : REL X M) (hx : RX X X2) (hm : RM M M2) : REL X2 M2 := ⟨hx.1, hm.1, h.2.2.1.step hx.2.1 hm.2.1, h.2.2.2.step hx.2.2 hm.2.2⟩
theorem ok_val {α : Type} {t : Option α} {P : α → Prop} {r : α} (h : ok t P) (e : t = some r) : P r := by
  obtain ⟨r2, e2, hp⟩ := h
  rw [e] at e2
  cases e2
  exact hp
theorem ok_v1 {α : Type} {t : Option (SS × α)} {X : SS} {v : α} (h : ok t (fun r => OKS r.1)) (e : t = some (X, v)) : OKS X := by
  have h2 := ok_val (P := fun r : SS × α => OKS r.1) h e
  exact h2
theorem lg_self (x : Int64) : lg_cmp x x = 0 := by
  unfold lg_cmp
  simp
/-- both answered alike: the exception's number, or the value -/
def AG (O2 M2 : SS) (k b : Int32) : Prop := M2.1 26 0 9 = k ∧ (k = 0 → O2.2.1 56 0 0 = b.toInt64)
theorem t_member {X M O : SS} (hR : REL X M) : ∃ X2 O2 k M2 b, f_L_member X O = some (X2, O2, k) ∧ f_X7_member M = some (M2, b) ∧ REL X2 M2 ∧ AG O2 M2 k b := by
  have hX := hR.1
  have hM := hR.2.1
  obtain ⟨c1, c2, c3, c4, c5, c6⟩ := hR.2.2.1
  have hC := hR.2.2.2
  have r1 : (0 : Int32) ≤ M.1 26 0 4 ∧ M.1 26 0 4 ≤ (10 : Int32) := hM.at1 26 0 4
  by_cases c : X.1 0 0 10 < (10 : Int32)
  · have d : ¬ M.1 26 0 4 = (10 : Int32) := by grind
    have hv : vp_in (M.1 26 0 4) 10 := vp_of (by decide) r1.1 (show M.1 26 0 4 < (10 : Int32) by grind)
    have e1 : f_L_member X O = some (u1 X 0 0 10 ((X.1 0 0 10) + 1), u2 O 56 0 0 (((u1 X 0 0 10 ((X.1 0 0 10) + 1)).1 0 0 10) - 1).toInt64, 0) := by
      unfold f_L_member f_X6_member
      rw [if_pos c]
      rfl
    have e2 : f_X7_member M = some (u1 (u1 (u1 M 51 0 (M.1 26 0 4).toNatClampNeg 10) 26 0 4 ((M.1 26 0 4) + 1)) 26 0 9 0, (M.1 26 0 4) + 1 - 1) := by
      unfold f_X7_member
      rw [if_neg d, gd_t hv]
      rfl
    refine ⟨_, _, _, _, _, e1, e2, ⟨ok_v1 (v_L_member hX O) e1, ok_v1 (v_X7_member hM) e2, ⟨?_, ?_, ?_, ?_, ?_, fun i => ?_⟩, ?_⟩, ?_, fun _ => ?_⟩
    · simp [up_e, c1]
    · simp [up_e, c2]
    · simp [up_e, c3]
    · simp [up_e, c4]
    · simp [up_e, c5]
    · simp [up_e, c6]
    · exact ⟨hC.1.k (by simp [up_e]) (fun _ => by simp [up_e]) (fun _ => by simp [up_e]) (fun _ _ => by simp [up_e]) (fun _ _ => by simp [up_e]), hC.2.1.k (by simp [up_e]) (by simp [up_e]) (fun _ => by simp [up_e]) (fun _ => by simp [up_e]) (fun _ => by simp [up_e]) (fun _ => by simp [up_e]), hC.2.2.1.k (fun t ht_ => by simp [up_e, Nat.ne_of_lt ht_]) (fun t ht_ => by simp [up_e, Nat.ne_of_lt ht_]) (fun t j ht_ => by simp [up_e, Nat.ne_of_lt ht_]) (fun t j ht_ => by simp [up_e, Nat.ne_of_lt ht_]) (fun _ => by simp [up_e]) (fun _ => by simp [up_e]) (fun _ => by simp [up_e]) (fun _ => by simp [up_e]), hC.2.2.2.1.k (by simp [up_e]) (fun _ => rfl) (by simp [up_e]) (fun _ => rfl), hC.2.2.2.2.k (by simp [up_e]) (by simp [up_e]) (by simp [up_e]) (by simp [up_e]) (fun _ => by simp [up_e]) (by simp [up_e]) (by simp [up_e]) (by simp [up_e]) (by simp [up_e]) (fun _ => by simp [up_e])⟩
    · simp [up_e]
    · simp [u2, up3, up_e, c5]
  · have d : M.1 26 0 4 = (10 : Int32) := by grind
    have e1 : f_L_member X O = some (X, O, 1) := by
      unfold f_L_member f_X6_member
      rw [if_neg c]
      rfl
    have e2 : f_X7_member M = some (u1 M 26 0 9 1, 0) := by
      unfold f_X7_member
      rw [if_pos d]
      rfl
    refine ⟨_, _, _, _, _, e1, e2, ⟨hX, ok_v1 (v_X7_member hM) e2, ⟨?_, ?_, ?_, ?_, ?_, fun i => ?_⟩, ?_⟩, ?_, fun z => absurd z (by decide)⟩
    · simp [up_e, c1]
    · simp [up_e, c2]
    · simp [up_e, c3]
    · simp [up_e, c4]
    · simp [up_e, c5]
    · simp [up_e, c6]
    · exact ⟨hC.1.k (by simp [up_e]) (fun _ => by simp [up_e]) (fun _ => by simp [up_e]) (fun _ _ => by simp [up_e]) (fun _ _ => by simp [up_e]), hC.2.1.k (by simp [up_e]) (by simp [up_e]) (fun _ => by simp [up_e]) (fun _ => by simp [up_e]) (fun _ => by simp [up_e]) (fun _ => by simp [up_e]), hC.2.2.1.k (fun t ht_ => by simp [up_e, Nat.ne_of_lt ht_]) (fun t ht_ => by simp [up_e, Nat.ne_of_lt ht_]) (fun t j ht_ => by simp [up_e, Nat.ne_of_lt ht_]) (fun t j ht_ => by simp [up_e, Nat.ne_of_lt ht_]) (fun _ => by simp [up_e]) (fun _ => by simp [up_e]) (fun _ => by simp [up_e]) (fun _ => by simp [up_e]), hC.2.2.2.1.k (by simp [up_e]) (fun _ => rfl) (by simp [up_e]) (fun _ => rfl), hC.2.2.2.2.k (by simp [up_e]) (by simp [up_e]) (by simp [up_e]) (by simp [up_e]) (fun _ => by simp [up_e]) (by simp [up_e]) (by simp [up_e]) (by simp [up_e]) (by simp [up_e]) (fun _ => by simp [up_e])⟩
    · simp [up_e]
theorem t_wipe {X M : SS} (hR : REL X M) : ∃ X2 v M2 b, f_X6_wipe X = some (X2, v) ∧ f_X7_wipe M = some (M2, b) ∧ REL X2 M2 ∧ v = b := by
  have hX := hR.1
  have hM := hR.2.1
  obtain ⟨c1, c2, c3, c4, c5, c6⟩ := hR.2.2.1
  have hC := hR.2.2.2
  have e1 : f_X6_wipe X = some (u1 X 1 0 2 0, X.1 1 0 2) := rfl
  have e2 : f_X7_wipe M = some (u1 (u1 (u1 M 26 0 0 0) 29 0 40 0) 26 0 9 0, M.1 26 0 0) := rfl
  refine ⟨_, _, _, _, e1, e2, ⟨ok_v1 (v_X6_wipe hX) e1, ok_v1 (v_X7_wipe hM) e2, ⟨?_, ?_, ?_, ?_, ?_, fun i => ?_⟩, ?_⟩, c1⟩
  · simp [up_e]
  · simp [up_e, c2]
  · simp [up_e, c3]
  · simp [up_e, c4]
  · simp [up_e, c5]
  · simp [up_e, c6]
  · have z0 : ((0 : Int32)).toNatClampNeg = 0 := rfl
    exact ⟨fun a ha => by simp [up_e, z0] at ha, hC.2.1.k (by simp [up_e]) (by simp [up_e]) (fun _ => by simp [up_e]) (fun _ => by simp [up_e]) (fun _ => by simp [up_e]) (fun _ => by simp [up_e]), hC.2.2.1.k (fun t ht_ => by simp [up_e, Nat.ne_of_lt ht_]) (fun t ht_ => by simp [up_e, Nat.ne_of_lt ht_]) (fun t j ht_ => by simp [up_e, Nat.ne_of_lt ht_]) (fun t j ht_ => by simp [up_e, Nat.ne_of_lt ht_]) (fun _ => by simp [up_e]) (fun _ => by simp [up_e]) (fun _ => by simp [up_e]) (fun _ => by simp [up_e]), hC.2.2.2.1.k (by simp [up_e]) (fun _ => rfl) (by simp [up_e]) (fun _ => rfl), hC.2.2.2.2.k (by simp [up_e]) (by simp [up_e]) (by simp [up_e]) (by simp [up_e]) (fun _ => by simp [up_e]) (by simp [up_e]) (by simp [up_e]) (by simp [up_e]) (by simp [up_e]) (fun _ => by simp [up_e])⟩
theorem t_clear {X M : SS} (hR : REL X M) : ∃ X2 v M2 b, f_X6_clear X = some (X2, v) ∧ f_X7_clear M = some (M2, b) ∧ REL X2 M2 ∧ v = b := by
  have hX := hR.1
  have hM := hR.2.1
  obtain ⟨c1, c2, c3, c4, c5, c6⟩ := hR.2.2.1
  have hC := hR.2.2.2
  have e1 : f_X6_clear X = some (u1 (u1 X 4 40 2 0) 4 40 3 0, X.1 4 40 2 + X.1 4 40 3) := rfl
  have e2 : f_X7_clear M = some (u1 (u1 (u1 M 26 0 1 0) 26 0 2 0) 26 0 9 0, M.1 26 0 1 + M.1 26 0 2) := rfl
  refine ⟨_, _, _, _, e1, e2, ⟨ok_v1 (v_X6_clear hX) e1, ok_v1 (v_X7_clear hM) e2, ⟨?_, ?_, ?_, ?_, ?_, fun i => ?_⟩, ?_⟩, by rw [c2, c3]⟩
  · simp [up_e, c1]
  · simp [up_e]
  · simp [up_e]
  · simp [up_e, c4]
  · simp [up_e, c5]
  · simp [up_e, c6]
  · have z0 : ((0 : Int32)).toNatClampNeg = 0 := rfl
    exact ⟨hC.1.k (by simp [up_e]) (fun _ => by simp [up_e]) (fun _ => by simp [up_e]) (fun _ _ => by simp [up_e]) (fun _ _ => by simp [up_e]), ⟨fun a ha => by simp [up_e, z0] at ha, fun a ha => by simp [up_e, z0] at ha⟩, hC.2.2.1.k (fun t ht_ => by simp [up_e, Nat.ne_of_lt ht_]) (fun t ht_ => by simp [up_e, Nat.ne_of_lt ht_]) (fun t j ht_ => by simp [up_e, Nat.ne_of_lt ht_]) (fun t j ht_ => by simp [up_e, Nat.ne_of_lt ht_]) (fun _ => by simp [up_e]) (fun _ => by simp [up_e]) (fun _ => by simp [up_e]) (fun _ => by simp [up_e]), hC.2.2.2.1.k (by simp [up_e]) (fun _ => rfl) (by simp [up_e]) (fun _ => rfl), hC.2.2.2.2.k (by simp [up_e]) (by simp [up_e]) (by simp [up_e]) (by simp [up_e]) (fun _ => by simp [up_e]) (by simp [up_e]) (by simp [up_e]) (by simp [up_e]) (by simp [up_e]) (fun _ => by simp [up_e])⟩
theorem oor_eq (p : Int32) : f_X6_isOutOfRange p = some (if p < (-999) ∨ 999 < p then 1 else 0) := by
  unfold f_X6_isOutOfRange
  by_cases a : p < (-999)
  · rw [if_pos a, if_pos (Or.inl a)]
  · rw [if_neg a]
    by_cases b : p ≤ 999
    · rw [if_pos b, if_neg (fun h => h.elim a (fun z => by grind))]
    · rw [if_neg b, if_pos (Or.inr (by grind))]
theorem rel_fail {X M : SS} (hR : REL X M) (k : Int32) (hk : (0 : Int32) ≤ k ∧ k ≤ (3 : Int32)) : REL X (u1 M 26 0 9 k) := by
  have h8 : IV TT M (u1 M 26 0 9 k) := IV.w1 hR.2.1 rfl trivial hk
  refine hR.step (RX.refl hR.1) ⟨h8.oks, ⟨?_, ?_, ?_, ?_, ?_, fun i => ?_⟩, ⟨fun a _ => ?_, fun a _ => ?_, fun a => ?_, fun a => ?_, fun a => ?_, fun a => ?_, fun a => ?_, fun a => ?_, ?_, fun a => rfl, ?_, ?_, ?_, ?_, fun a => ?_⟩⟩
  all_goals simp [up_e]
theorem t_kata {X M O : SS} (hR : REL X M) (p : Int32) : ∃ X2 O2 k M2 b, f_L_kata X O p = some (X2, O2, k) ∧ f_X7_kata M p = some (M2, b) ∧ REL X2 M2 ∧ AG O2 M2 k b := by
  have hX := hR.1
  have hM := hR.2.1
  obtain ⟨c1, c2, c3, c4, c5, c6⟩ := hR.2.2.1
  have hC := hR.2.2.2
  have r1 : (0 : Int32) ≤ M.1 26 0 3 ∧ M.1 26 0 3 ≤ (8 : Int32) := hM.at1 26 0 3
  by_cases a : p < 1 ∨ 5 < p
  · have e1 : f_L_kata X O p = some (X, O, 1) := by
      unfold f_L_kata f_X6_kata
      by_cases z : p < 1
      · rw [if_pos z]; rfl
      · rw [if_neg z, if_neg (by grind)]; rfl
    have e2 : f_X7_kata M p = some (u1 M 26 0 9 1, 0) := by
      unfold f_X7_kata
      rw [in_eq, if_pos a]
      rfl
    exact ⟨_, _, _, _, _, e1, e2, rel_fail hR 1 (by decide), up_s, fun z => absurd z (by decide)⟩
  · by_cases c : X.1 0 0 9 < (8 : Int32)
    · have d : ¬ M.1 26 0 3 = (8 : Int32) := by grind
      have hv : vp_in (M.1 26 0 3) 8 := vp_of (by decide) r1.1 (show M.1 26 0 3 < (8 : Int32) by grind)
      have hv2 : vp_in (X.1 0 0 9) 8 := by rw [c4]; exact hv
      have e1 : f_L_kata X O p = some (u1 (u1 X 7 (X.1 0 0 9).toNatClampNeg 2 p) 0 0 9 ((u1 X 7 (X.1 0 0 9).toNatClampNeg 2 p).1 0 0 9 + 1), u2 O 56 0 0 (((u1 (u1 X 7 (X.1 0 0 9).toNatClampNeg 2 p) 0 0 9 ((u1 X 7 (X.1 0 0 9).toNatClampNeg 2 p).1 0 0 9 + 1)).1 0 0 9) - 1).toInt64, 0) := by
        unfold f_L_kata f_X6_kata
        rw [if_neg (fun z => a (Or.inl z)), if_pos (by grind), if_pos c, gd_t hv2]
        rfl
      have e2 : f_X7_kata M p = some (u1 (u1 (u1 M 32 0 (M.1 26 0 3).toNatClampNeg p) 26 0 3 ((u1 M 32 0 (M.1 26 0 3).toNatClampNeg p).1 26 0 3 + 1)) 26 0 9 0, (u1 (u1 M 32 0 (M.1 26 0 3).toNatClampNeg p) 26 0 3 ((u1 M 32 0 (M.1 26 0 3).toNatClampNeg p).1 26 0 3 + 1)).1 26 0 3 - 1) := by
        unfold f_X7_kata
        rw [in_eq, if_neg a]
        rw [b0_some, if_neg (by decide), if_neg d, gd_t hv]
        rfl
      refine ⟨_, _, _, _, _, e1, e2, ⟨ok_v1 (v_L_kata hX O p) e1, ok_v1 (v_X7_kata hM p) e2, ⟨?_, ?_, ?_, ?_, ?_, fun i => ?_⟩, ?_⟩, up_s, fun _ => ?_⟩
      · simp [up_e, c1]
      · simp [up_e, c2]
      · simp [up_e, c3]
      · simp [up_e, c4]
      · simp [up_e, c5]
      · simp [up_e, c6]
      · exact ⟨hC.1.k (by simp [up_e]) (fun _ => by simp [up_e]) (fun _ => by simp [up_e]) (fun _ _ => by simp [up_e]) (fun _ _ => by simp [up_e]), hC.2.1.k (by simp [up_e]) (by simp [up_e]) (fun _ => by simp [up_e]) (fun _ => by simp [up_e]) (fun _ => by simp [up_e]) (fun _ => by simp [up_e]), hC.2.2.1.k (fun t ht_ => by simp [up_e, Nat.ne_of_lt ht_]) (fun t ht_ => by simp [up_e, Nat.ne_of_lt ht_]) (fun t j ht_ => by simp [up_e, Nat.ne_of_lt ht_]) (fun t j ht_ => by simp [up_e, Nat.ne_of_lt ht_]) (fun _ => by simp [up_e]) (fun _ => by simp [up_e]) (fun _ => by simp [up_e]) (fun _ => by simp [up_e]), hC.2.2.2.1.k (by simp [up_e]) (fun _ => rfl) (by simp [up_e]) (fun _ => rfl), hC.2.2.2.2.k (by simp [up_e]) (by simp [up_e]) (by simp [up_e]) (by simp [up_e]) (fun _ => by simp [up_e]) (by simp [up_e]) (by simp [up_e]) (by simp [up_e]) (by simp [up_e]) (fun _ => by simp [up_e])⟩
      · simp [u2, up3, up_e, c4]
    · have d : M.1 26 0 3 = (8 : Int32) := by grind
      have e1 : f_L_kata X O p = some (X, O, 2) := by
        unfold f_L_kata f_X6_kata
        rw [if_neg (fun z => a (Or.inl z)), if_pos (by grind), if_neg c]
        rfl
      have e2 : f_X7_kata M p = some (u1 M 26 0 9 2, 0) := by
        unfold f_X7_kata
        rw [in_eq, if_neg a]
        rw [b0_some, if_neg (by decide), if_pos d]
        rfl
      exact ⟨_, _, _, _, _, e1, e2, rel_fail hR 2 (by decide), up_s, fun z => absurd z (by decide)⟩
theorem t_number {X M O : SS} (hR : REL X M) (p q : Int32) : ∃ X2 O2 k M2 b, f_L_number X O p q = some (X2, O2, k) ∧ f_X7_number M p q = some (M2, b) ∧ REL X2 M2 ∧ AG O2 M2 k b := by
  have hX := hR.1
  have hM := hR.2.1
  obtain ⟨c1, c2, c3, c4, c5, c6⟩ := hR.2.2.1
  have hC := hR.2.2.2
  have r1 : (0 : Int32) ≤ M.1 26 0 1 ∧ M.1 26 0 1 ≤ (4 : Int32) := hM.at1 26 0 1
  have r2 : (0 : Int32) ≤ M.1 26 0 2 ∧ M.1 26 0 2 ≤ (6 : Int32) := hM.at1 26 0 2
  by_cases a : p < (-999) ∨ 999 < p
  · have e1 : f_L_number X O p q = some (X, O, 1) := by
      unfold f_L_number f_X6_number
      rw [oor_eq, if_pos a]
      rfl
    have e2 : f_X7_number M p q = some (u1 M 26 0 9 1, 0) := by
      unfold f_X7_number
      rw [in_eq, if_pos a]
      rfl
    exact ⟨_, _, _, _, _, e1, e2, rel_fail hR 1 (by decide), up_s, fun z => absurd z (by decide)⟩
  · by_cases hq : q = 0
    · by_cases c : X.1 4 40 2 < (4 : Int32)
      · have d : ¬ M.1 26 0 1 = (4 : Int32) := by grind
        have d2 : ¬ (4 : Int32) ≤ X.1 4 40 2 := by grind
        have hv : vp_in (M.1 26 0 1) 4 := vp_of (by decide) r1.1 (show M.1 26 0 1 < (4 : Int32) by grind)
        have hv2 : vp_in (X.1 4 40 2) 4 := by rw [c2]; exact hv
        have e1 : f_L_number X O p q = some (u1 (u1 X 5 40 (X.1 4 40 2).toNatClampNeg p) 4 40 2 ((u1 X 5 40 (X.1 4 40 2).toNatClampNeg p).1 4 40 2 + 1), u2 O 56 0 0 ((u1 (u1 X 5 40 (X.1 4 40 2).toNatClampNeg p) 4 40 2 ((u1 X 5 40 (X.1 4 40 2).toNatClampNeg p).1 4 40 2 + 1)).1 4 40 2).toInt64, 0) := by
          unfold f_L_number f_X6_number
          rw [oor_eq, if_neg a]
          rw [b0_some, if_pos rfl, if_pos hq, if_pos c]
          unfold f_X6_number_J57
          rw [if_pos hq]
          unfold f_X4_addInput
          rw [if_neg d2, gd_t hv2]
          rfl
        have e2 : f_X7_number M p q = some (u1 (u1 (u1 M 30 0 (M.1 26 0 1).toNatClampNeg p) 26 0 1 ((u1 M 30 0 (M.1 26 0 1).toNatClampNeg p).1 26 0 1 + 1)) 26 0 9 0, (u1 (u1 M 30 0 (M.1 26 0 1).toNatClampNeg p) 26 0 1 ((u1 M 30 0 (M.1 26 0 1).toNatClampNeg p).1 26 0 1 + 1)).1 26 0 1) := by
          unfold f_X7_number
          rw [in_eq, if_neg a]
          rw [b0_some, if_neg (by decide), if_pos hq, if_neg d]
          unfold f_X7_number_J49
          rw [if_pos hq, gd_t hv]
          rfl
        refine ⟨_, _, _, _, _, e1, e2, ⟨ok_v1 (v_L_number hX O p q) e1, ok_v1 (v_X7_number hM p q) e2, ⟨?_, ?_, ?_, ?_, ?_, fun i => ?_⟩, ?_⟩, up_s, fun _ => ?_⟩
        · simp [up_e, c1]
        · simp [up_e, c2]
        · simp [up_e, c3]
        · simp [up_e, c4]
        · simp [up_e, c5]
        · simp [up_e, c6]
        · refine ⟨hC.1.k (by simp [up_e]) (fun _ => by simp [up_e]) (fun _ => by simp [up_e]) (fun _ _ => by simp [up_e]) (fun _ _ => by simp [up_e]), ⟨fun j hj => ?_, fun j hj => ?_⟩, hC.2.2.1.k (fun t ht_ => by simp [up_e, Nat.ne_of_lt ht_]) (fun t ht_ => by simp [up_e, Nat.ne_of_lt ht_]) (fun t j ht_ => by simp [up_e, Nat.ne_of_lt ht_]) (fun t j ht_ => by simp [up_e, Nat.ne_of_lt ht_]) (fun _ => by simp [up_e]) (fun _ => by simp [up_e]) (fun _ => by simp [up_e]) (fun _ => by simp [up_e]), hC.2.2.2.1.k (by simp [up_e]) (fun _ => rfl) (by simp [up_e]) (fun _ => rfl), hC.2.2.2.2.k (by simp [up_e]) (by simp [up_e]) (by simp [up_e]) (by simp [up_e]) (fun _ => by simp [up_e]) (by simp [up_e]) (by simp [up_e]) (by simp [up_e]) (by simp [up_e]) (fun _ => by simp [up_e])⟩
          · have ec1 := cl_succ (v := M.1 26 0 1) r1.1 (show M.1 26 0 1 < (1000 : Int32) by grind)
            simp [up_e, c2, ec1] at hj
            simp [up_e, c2]
            by_cases q : j = (M.1 26 0 1).toNatClampNeg
            · simp [q]
            · have h1 := hC.2.1.1 j (by rw [c2]; omega)
              simp [q, h1]
          · simp [up_e] at hj
            simp [up_e]
            exact hC.2.1.2 j hj
        · simp [u2, up3, up_e, c2]
      · have d : M.1 26 0 1 = (4 : Int32) := by grind
        have e1 : f_L_number X O p q = some (X, O, 2) := by
          unfold f_L_number f_X6_number
          rw [oor_eq, if_neg a]
          rw [b0_some, if_pos rfl, if_pos hq, if_neg c]
          rfl
        have e2 : f_X7_number M p q = some (u1 M 26 0 9 2, 0) := by
          unfold f_X7_number
          rw [in_eq, if_neg a]
          rw [b0_some, if_neg (by decide), if_pos hq, if_pos d]
          rfl
        exact ⟨_, _, _, _, _, e1, e2, rel_fail hR 2 (by decide), up_s, fun z => absurd z (by decide)⟩
    · by_cases c : X.1 4 40 3 < (6 : Int32)
      · have d : ¬ M.1 26 0 2 = (6 : Int32) := by grind
        have d2 : ¬ (6 : Int32) ≤ X.1 4 40 3 := by grind
        have hv : vp_in (M.1 26 0 2) 6 := vp_of (by decide) r2.1 (show M.1 26 0 2 < (6 : Int32) by grind)
        have hv2 : vp_in (X.1 4 40 3) 6 := by rw [c3]; exact hv
        have e1 : f_L_number X O p q = some (u1 (u1 X 6 40 (X.1 4 40 3).toNatClampNeg p) 4 40 3 ((u1 X 6 40 (X.1 4 40 3).toNatClampNeg p).1 4 40 3 + 1), u2 O 56 0 0 ((u1 (u1 X 6 40 (X.1 4 40 3).toNatClampNeg p) 4 40 3 ((u1 X 6 40 (X.1 4 40 3).toNatClampNeg p).1 4 40 3 + 1)).1 4 40 3).toInt64, 0) := by
          unfold f_L_number f_X6_number
          rw [oor_eq, if_neg a]
          rw [b0_some, if_pos rfl, if_neg hq, if_pos c]
          unfold f_X6_number_J57
          rw [if_neg hq]
          unfold f_X4_addExpected
          rw [if_neg d2, gd_t hv2]
          rfl
        have e2 : f_X7_number M p q = some (u1 (u1 (u1 M 31 0 (M.1 26 0 2).toNatClampNeg p) 26 0 2 ((u1 M 31 0 (M.1 26 0 2).toNatClampNeg p).1 26 0 2 + 1)) 26 0 9 0, (u1 (u1 M 31 0 (M.1 26 0 2).toNatClampNeg p) 26 0 2 ((u1 M 31 0 (M.1 26 0 2).toNatClampNeg p).1 26 0 2 + 1)).1 26 0 2) := by
          unfold f_X7_number
          rw [in_eq, if_neg a]
          rw [b0_some, if_neg (by decide), if_neg hq, if_neg d]
          unfold f_X7_number_J49
          rw [if_neg hq, gd_t hv]
          rfl
        refine ⟨_, _, _, _, _, e1, e2, ⟨ok_v1 (v_L_number hX O p q) e1, ok_v1 (v_X7_number hM p q) e2, ⟨?_, ?_, ?_, ?_, ?_, fun i => ?_⟩, ?_⟩, up_s, fun _ => ?_⟩
        · simp [up_e, c1]
        · simp [up_e, c2]
        · simp [up_e, c3]
        · simp [up_e, c4]
        · simp [up_e, c5]
        · simp [up_e, c6]
        · refine ⟨hC.1.k (by simp [up_e]) (fun _ => by simp [up_e]) (fun _ => by simp [up_e]) (fun _ _ => by simp [up_e]) (fun _ _ => by simp [up_e]), ⟨fun j hj => ?_, fun j hj => ?_⟩, hC.2.2.1.k (fun t ht_ => by simp [up_e, Nat.ne_of_lt ht_]) (fun t ht_ => by simp [up_e, Nat.ne_of_lt ht_]) (fun t j ht_ => by simp [up_e, Nat.ne_of_lt ht_]) (fun t j ht_ => by simp [up_e, Nat.ne_of_lt ht_]) (fun _ => by simp [up_e]) (fun _ => by simp [up_e]) (fun _ => by simp [up_e]) (fun _ => by simp [up_e]), hC.2.2.2.1.k (by simp [up_e]) (fun _ => rfl) (by simp [up_e]) (fun _ => rfl), hC.2.2.2.2.k (by simp [up_e]) (by simp [up_e]) (by simp [up_e]) (by simp [up_e]) (fun _ => by simp [up_e]) (by simp [up_e]) (by simp [up_e]) (by simp [up_e]) (by simp [up_e]) (fun _ => by simp [up_e])⟩
          · simp [up_e] at hj
            simp [up_e]
            exact hC.2.1.1 j hj
          · have ec1 := cl_succ (v := M.1 26 0 2) r2.1 (show M.1 26 0 2 < (1000 : Int32) by grind)
            simp [up_e, c3, ec1] at hj
            simp [up_e, c3]
            by_cases q : j = (M.1 26 0 2).toNatClampNeg
            · simp [q]
            · have h1 := hC.2.1.2 j (by rw [c3]; omega)
              simp [q, h1]
        · simp [u2, up3, up_e, c3]
      · have d : M.1 26 0 2 = (6 : Int32) := by grind
        have e1 : f_L_number X O p q = some (X, O, 2) := by
          unfold f_L_number f_X6_number
          rw [oor_eq, if_neg a]
          rw [b0_some, if_pos rfl, if_neg hq, if_neg c]
          rfl
        have e2 : f_X7_number M p q = some (u1 M 26 0 9 2, 0) := by
          unfold f_X7_number
          rw [in_eq, if_neg a]
          rw [b0_some, if_neg (by decide), if_neg hq, if_pos d]
          rfl
        exact ⟨_, _, _, _, _, e1, e2, rel_fail hR 2 (by decide), up_s, fun z => absurd z (by decide)⟩
theorem oneOf_eq (p a b c d : Int32) : f_X7_isOneOf p a b c d = some (oneC p a b c d) := by
  unfold f_X7_isOneOf oneC
  by_cases h1 : p = a
  · rw [if_pos h1, if_pos h1]
  · rw [if_neg h1, if_neg h1]
    by_cases h2 : p = b
    · rw [if_pos h2, if_pos h2]
    · rw [if_neg h2, if_neg h2]
      by_cases h3 : p = c
      · rw [if_pos h3, if_pos h3]
      · rw [if_neg h3, if_neg h3]
        by_cases h4 : p = d
        · rw [if_pos h4, if_pos h4]
        · rw [if_neg h4, if_neg h4]
theorem isLetter_eq (p : Int32) : f_X7_isLetter p = some (letC p) := by
  unfold f_X7_isLetter letC
  rw [oneOf_eq, oneOf_eq, oneOf_eq]
  show (if oneC p 110 105 43 45 = 0 then (if oneC p 42 37 100 115 = 0 then (if oneC p 112 111 91 93 = 0 then some 0 else some 1) else some 1) else some 1) = _
  by_cases h1 : oneC p 110 105 43 45 = 0 <;> by_cases h2 : oneC p 42 37 100 115 = 0 <;> by_cases h3 : oneC p 112 111 91 93 = 0 <;> simp [h1, h2, h3]
theorem t_step {X M O : SS} (hR : REL X M) (p q : Int32) : ∃ X2 O2 k M2 b, f_L_step X O p q = some (X2, O2, k) ∧ f_X7_step M p q = some (M2, b) ∧ REL X2 M2 ∧ AG O2 M2 k b := by
  have hX := hR.1
  have hM := hR.2.1
  obtain ⟨c1, c2, c3, c4, c5, c6⟩ := hR.2.2.1
  have hC := hR.2.2.2
  have r1 : (0 : Int32) ≤ M.1 26 0 0 ∧ M.1 26 0 0 ≤ (24 : Int32) := hM.at1 26 0 0
  by_cases a : letC p = 0
  · have a2 : ¬ 0 ≤ ixL p := fun z => (ix_let p).mp z a
    have e1 : f_L_step X O p q = some (X, O, 1) := by
      unfold f_L_step f_X6_step
      rw [if_neg a2]
      rfl
    have e2 : f_X7_step M p q = some (u1 M 26 0 9 1, 0) := by
      unfold f_X7_step
      rw [isLetter_eq, a]
      rfl
    exact ⟨_, _, _, _, _, e1, e2, rel_fail hR 1 (by decide), up_s, fun z => absurd z (by decide)⟩
  · have a2 : 0 ≤ ixL p := (ix_let p).mpr a
    by_cases g : p = 110 ∧ (q < (-999) ∨ 999 < q)
    · obtain ⟨g1, g2⟩ := g
      have e1 : f_L_step X O p q = some (X, O, 1) := by
        unfold f_L_step f_X6_step
        rw [if_pos a2, if_pos g1]
        unfold f_X6_step_J30
        rw [if_neg (by decide), oor_eq, if_pos g2]
        rfl
      have e2 : f_X7_step M p q = some (u1 M 26 0 9 1, 0) := by
        unfold f_X7_step
        rw [isLetter_eq]
        rw [b0_some, if_neg a, if_pos g1, in_eq, if_pos g2]
        rfl
      exact ⟨_, _, _, _, _, e1, e2, rel_fail hR 1 (by decide), up_s, fun z => absurd z (by decide)⟩
    · have e1 : ∃ w v, (w = 0 → v = (0 : Int32)) ∧ (¬ w = 0 → v = q) ∧ f_X6_step X p q = f_X6_step_J52 X w p q ∧ (w = 0 ↔ ¬ p = 110) ∧ (w = 0 ∨ w = (1 : Int32)) := by
        by_cases g1 : p = 110
        · refine ⟨1, q, fun z => absurd z (by decide), fun _ => rfl, ?_, ⟨fun z => absurd z (by decide), fun z => absurd g1 z⟩, Or.inr rfl⟩
          unfold f_X6_step
          rw [if_pos a2, if_pos g1]
          unfold f_X6_step_J30
          rw [if_neg (by decide), oor_eq, if_neg (fun z => g ⟨g1, z⟩)]
          rfl
        · refine ⟨0, 0, fun _ => rfl, fun z => absurd rfl z, ?_, ⟨fun _ => g1, fun _ => rfl⟩, Or.inl rfl⟩
          unfold f_X6_step
          rw [if_pos a2, if_neg g1]
          unfold f_X6_step_J30
          rw [if_pos rfl]
      obtain ⟨w, v, hw0, hw1, hx, hw, hw2⟩ := e1
      have hm : f_X7_step M p q = f_X7_step_J32 M p q := by
        unfold f_X7_step
        rw [isLetter_eq]
        rw [b0_some, if_neg a]
        by_cases g1 : p = 110
        · rw [if_pos g1, in_eq, if_neg (fun z => g ⟨g1, z⟩)]
          rfl
        · rw [if_neg g1]
      by_cases c : X.1 1 0 2 < (24 : Int32)
      · have d : ¬ M.1 26 0 0 = (24 : Int32) := by grind
        have d2 : ¬ (24 : Int32) ≤ X.1 1 0 2 := by grind
        have hv2 : vp_in (X.1 1 0 2) 24 := vp_of (by decide) (by grind) (show X.1 1 0 2 < (24 : Int32) by grind)
        have hv : vp_in ((960 : Int32) + M.1 26 0 0) 984 := vp_of (by decide) (by grind) (show (960 : Int32) + M.1 26 0 0 < (984 : Int32) by grind)
        have e1 : f_L_step X O p q = some (u1 (u1 (u1 X 2 0 (X.1 1 0 2).toNatClampNeg (vp_nar .char p)) 3 0 (X.1 1 0 2).toNatClampNeg v) 1 0 2 (X.1 1 0 2 + 1), u2 O 56 0 0 (X.1 1 0 2 + 1).toInt64, 0) := by
          unfold f_L_step
          rw [hx]
          unfold f_X6_step_J52
          rw [if_pos c]
          have hap : ∀ y, f_X3_append X 0 p y = some (u1 (u1 (u1 X 2 0 (X.1 1 0 2).toNatClampNeg (vp_nar .char p)) 3 0 (X.1 1 0 2).toNatClampNeg y) 1 0 2 (X.1 1 0 2 + 1), ()) := by
            intro y
            unfold f_X3_append
            rw [if_neg d2, gd_t hv2]
            show gd (vp_in (X.1 1 0 2) 24) _ = _
            rw [gd_t hv2]
            rfl
          by_cases hz : w = 0
          · rw [if_pos hz, hap, hw0 hz]
            rfl
          · rw [if_neg hz, hap, hw1 hz]
            rfl
        have e2 : f_X7_step M p q = some (u1 (u1 (u1 (u1 (u1 M 27 0 ((960 : Int32) + M.1 26 0 0).toNatClampNeg (vp_nar .char p)) 28 0 ((960 : Int32) + M.1 26 0 0).toNatClampNeg v) 26 0 0 (M.1 26 0 0 + 1)) 29 0 40 (M.1 26 0 0 + 1)) 26 0 9 0, M.1 26 0 0 + 1) := by
          rw [hm]
          unfold f_X7_step_J32
          rw [if_neg d, gd_t hv]
          have hj : ∀ y, f_X7_step_J84 (u1 M 27 0 ((960 : Int32) + M.1 26 0 0).toNatClampNeg (vp_nar .char p)) y = some (u1 (u1 (u1 (u1 (u1 M 27 0 ((960 : Int32) + M.1 26 0 0).toNatClampNeg (vp_nar .char p)) 28 0 ((960 : Int32) + M.1 26 0 0).toNatClampNeg y) 26 0 0 (M.1 26 0 0 + 1)) 29 0 40 (M.1 26 0 0 + 1)) 26 0 9 0, M.1 26 0 0 + 1) := by
            intro y
            unfold f_X7_step_J84
            show gd (vp_in ((960 : Int32) + M.1 26 0 0) 984) _ = _
            rw [gd_t hv]
            rfl
          show (if p = 110 then _ else _) = _
          by_cases g1 : p = 110
          · rw [if_pos g1, hj, hw1 (fun z => (hw.mp z) g1)]
          · rw [if_neg g1, hj, hw0 (hw.mpr g1)]
        refine ⟨_, _, _, _, _, e1, e2, ⟨ok_v1 (v_L_step hX O p q) e1, ok_v1 (v_X7_step hM p q) e2, ⟨?_, ?_, ?_, ?_, ?_, fun i => ?_⟩, ?_⟩, up_s, fun _ => ?_⟩
        · simp [up_e, c1]
        · simp [up_e, c2]
        · simp [up_e, c3]
        · simp [up_e, c4]
        · simp [up_e, c5]
        · simp [up_e, c6]
        · refine ⟨?_, hC.2.1.k (by simp [up_e]) (by simp [up_e]) (fun _ => by simp [up_e]) (fun _ => by simp [up_e]) (fun _ => by simp [up_e]) (fun _ => by simp [up_e]), hC.2.2.1.k (fun t ht_ => by simp [up_e, Nat.ne_of_lt ht_]) (fun t ht_ => by simp [up_e, Nat.ne_of_lt ht_]) (fun t j ht_ => by simp [up_e, Nat.ne_of_lt ht_]) (fun t j ht_ => by simp [up_e, Nat.ne_of_lt ht_]) (fun _ => by simp [up_e]) (fun _ => by simp [up_e]) (fun _ => by simp [up_e]) (fun _ => by simp [up_e]), hC.2.2.2.1.k (by simp [up_e]) (fun _ => rfl) (by simp [up_e]) (fun _ => rfl), hC.2.2.2.2.k (by simp [up_e]) (by simp [up_e]) (by simp [up_e]) (by simp [up_e]) (fun _ => by simp [up_e]) (by simp [up_e]) (by simp [up_e]) (by simp [up_e]) (by simp [up_e]) (fun _ => by simp [up_e])⟩
          have ec1 := cl_succ (v := M.1 26 0 0) r1.1 (show M.1 26 0 0 < (1000 : Int32) by grind)
          have ec9 : ((960 : Int32) + M.1 26 0 0).toNatClampNeg = 960 + (M.1 26 0 0).toNatClampNeg := by
            have e := cl_nI r1.1
            have l := cl_le (n := 24) r1.2 (by decide)
            rw [← e, show (960 : Int32) = nI 960 from rfl, nI_add, nI_clamp (show 960 + (M.1 26 0 0).toNatClampNeg < 2 ^ 31 by omega), nI_clamp (show (M.1 26 0 0).toNatClampNeg < 2 ^ 31 by omega)]
          intro a ha
          rw [up_s, c1, ec1] at ha
          simp [up_e, c1, ec9]
          by_cases q : a = (M.1 26 0 0).toNatClampNeg
          · simp [q]
          · have h1 := hC.1 a (by rw [c1]; omega)
            simp [q, h1.1, h1.2]
        · simp [u2, up3, up_e, c1]
      · have d : M.1 26 0 0 = (24 : Int32) := by grind
        have e1 : f_L_step X O p q = some (X, O, 2) := by
          unfold f_L_step
          rw [hx]
          unfold f_X6_step_J52
          rw [if_neg c]
          rfl
        have e2 : f_X7_step M p q = some (u1 M 26 0 9 2, 0) := by
          rw [hm]
          unfold f_X7_step_J32
          rw [if_pos d]
          rfl
        exact ⟨_, _, _, _, _, e1, e2, rel_fail hR 2 (by decide), up_s, fun z => absurd z (by decide)⟩
theorem kataAt_no {X : SS} {p : Int32} (h : p < 0 ∨ X.1 0 0 9 ≤ p) : f_X6_kataAt X p = some (.inr "java/lang/IndexOutOfBoundsException") := by
  unfold f_X6_kataAt
  by_cases z : p < 0
  · rw [if_pos z]
  · rw [if_neg z, if_neg (by grind)]
theorem kataAt_in {X : SS} (hX : OKS X) {p : Int32} (h : ¬ (p < 0 ∨ X.1 0 0 9 ≤ p)) : f_X6_kataAt X p = some (.inl p.toNatClampNeg) := by
  have r1 : (0 : Int32) ≤ X.1 0 0 9 ∧ X.1 0 0 9 ≤ (8 : Int32) := hX.at1 0 0 9
  unfold f_X6_kataAt
  rw [if_neg (fun z => h (Or.inl z)), if_pos (by grind), gd_t (vp_of (by decide) (by grind) (show p < (8 : Int32) by grind))]
theorem isKata_eq {M : SS} (hM : OKS M) (p : Int32) : f_X7_isKata M p = some (if p < 0 ∨ M.1 26 0 3 ≤ p then 0 else 1) := by
  have r1 : (0 : Int32) ≤ M.1 26 0 3 ∧ M.1 26 0 3 ≤ (8 : Int32) := hM.at1 26 0 3
  unfold f_X7_isKata
  rw [in_eq]
  by_cases h : p < 0 ∨ M.1 26 0 3 ≤ p
  · rw [if_pos h, if_pos (show p < 0 ∨ M.1 26 0 3 - 1 < p by grind)]
    rw [b0_some, gd_t (okz_of (by decide) (by decide))]
  · rw [if_neg h, if_neg (show ¬ (p < 0 ∨ M.1 26 0 3 - 1 < p) by grind)]
    rw [b0_some, gd_t (okz_of (by decide) (by decide))]
theorem t_tests {X M O : SS} (hR : REL X M) (p : Int32) : ∃ O2 k M2 b, f_L_tests X O p = some (O2, k) ∧ f_X7_tests M p = some (M2, b) ∧ REL X M2 ∧ AG O2 M2 k b := by
  have hX := hR.1
  have hM := hR.2.1
  obtain ⟨c1, c2, c3, c4, c5, c6⟩ := hR.2.2.1
  have hC := hR.2.2.2
  have r1 : (0 : Int32) ≤ M.1 26 0 3 ∧ M.1 26 0 3 ≤ (8 : Int32) := hM.at1 26 0 3
  by_cases a : p < 0 ∨ X.1 0 0 9 ≤ p
  · have e1 : f_L_tests X O p = some (O, 1) := by
      unfold f_L_tests f_X6_tests
      rw [kataAt_no a]
      rfl
    have e2 : f_X7_tests M p = some (u1 M 26 0 9 1, 0) := by
      unfold f_X7_tests
      rw [isKata_eq hM, if_pos (by rw [← c4]; exact a)]
      rfl
    exact ⟨_, _, _, _, e1, e2, rel_fail hR 1 (by decide), up_s, fun z => absurd z (by decide)⟩
  · have hv : vp_in p 8 := vp_of (by decide) (by grind) (show p < (8 : Int32) by grind)
    have e1 : f_L_tests X O p = some (u2 O 56 0 0 (X.1 7 p.toNatClampNeg 1).toInt64, 0) := by
      unfold f_L_tests f_X6_tests
      rw [kataAt_in hX a]
      rfl
    have e2 : f_X7_tests M p = some (u1 M 26 0 9 0, M.1 33 0 p.toNatClampNeg) := by
      unfold f_X7_tests
      rw [isKata_eq hM, if_neg (by rw [← c4]; exact a)]
      rw [b0_some, if_neg (by decide), gd_t hv]
      rfl
    refine ⟨_, _, _, _, e1, e2, rel_fail hR 0 (by decide), up_s, fun _ => ?_⟩
    simp [u2, up3, c6]
/-! a test is set: what is typed goes over -/
theorem tk_L18 {X1 : SS} {i0 i1 : Nat} (hne : i1 ≠ i0) (hc : (0 : Int32) ≤ X1.1 4 i0 2 ∧ X1.1 4 i0 2 ≤ (4 : Int32)) {P : SS × Unit → Prop} : ∀ (n a : Nat) (X6 : SS) (k3 : SS → Option (SS × Unit)), 5 ≤ a + n → nI a ≤ X1.1 4 i0 2 → a ≤ 4 → (∀ k i p : Nat, ¬ (k = 5 ∧ i = i0) → X6.1 k i p = X1.1 k i p) → X6.2 = X1.2 → (∀ j : Nat, j < a → X6.1 5 i0 j = X1.1 5 i1 j) →
    (∀ X8 : SS, (∀ k i p : Nat, ¬ (k = 5 ∧ i = i0) → X8.1 k i p = X1.1 k i p) → X8.2 = X1.2 → (∀ j : Nat, j < (X1.1 4 i0 2).toNatClampNeg → X8.1 5 i0 j = X1.1 5 i1 j) → ok (k3 X8) P) → ok (f_X4_take_L18 i0 i1 n (nI a) X6 k3) P := by
  intro n
  induction n with
  | zero => intro a X6 k3 h1 h2 h3; omega
  | succ n ih =>
    intro a X6 k3 h1 h2 h3 hf h2c hj hk
    rw [f_X4_take_L18]
    show ok (if X6.1 4 i0 2 ≤ nI a then k3 X6 else _) P
    rw [hf 4 i0 2 (by omega)]
    refine ok_ite (fun c => ?_) (fun c => ?_)
    · refine hk X6 hf h2c (fun j hj2 => hj j ?_)
      have e : X1.1 4 i0 2 = nI a := by grind
      rw [e, nI_clamp (by omega)] at hj2
      exact hj2
    · have hlt : nI a < X1.1 4 i0 2 := by grind
      have ha : a < 4 := (nI_ltI (by omega) (by decide)).mp (show nI a < nI 4 by show nI a < (4 : Int32); grind)
      have hv : vp_in (nI a) 4 := nI_in ha (by decide)
      refine ok_gd hv (fun _ => ok_gd hv (fun _ => ?_))
      rw [lq_e, nI_clamp (by omega), nI_1]
      refine ih (a + 1) _ k3 (by omega) (by rw [← nI_1]; grind) (by omega) (fun k i p z => ?_) h2c (fun j hj2 => ?_) hk
      · rw [up_e, if_neg (fun y => z ⟨y.1, y.2.1⟩)]
        exact hf k i p z
      · rw [up_e]
        by_cases y : j = a
        · rw [if_pos ⟨rfl, rfl, y⟩, hf 5 i1 a (fun z => hne z.2), y]
        · rw [if_neg (fun z => y z.2.2)]
          exact hj j (by omega)
theorem tk_L46 {X1 : SS} {i0 i1 : Nat} (hne : i1 ≠ i0) (hc : (0 : Int32) ≤ X1.1 4 i0 3 ∧ X1.1 4 i0 3 ≤ (6 : Int32)) {P : SS × Unit → Prop} : ∀ (n a : Nat) (X6 : SS) (k3 : SS → Option (SS × Unit)), 7 ≤ a + n → nI a ≤ X1.1 4 i0 3 → a ≤ 6 → (∀ k i p : Nat, ¬ (k = 6 ∧ i = i0) → X6.1 k i p = X1.1 k i p) → X6.2 = X1.2 → (∀ j : Nat, j < a → X6.1 6 i0 j = X1.1 6 i1 j) →
    (∀ X8 : SS, (∀ k i p : Nat, ¬ (k = 6 ∧ i = i0) → X8.1 k i p = X1.1 k i p) → X8.2 = X1.2 → (∀ j : Nat, j < (X1.1 4 i0 3).toNatClampNeg → X8.1 6 i0 j = X1.1 6 i1 j) → ok (k3 X8) P) → ok (f_X4_take_L46 i0 i1 n (nI a) X6 k3) P := by
  intro n
  induction n with
  | zero => intro a X6 k3 h1 h2 h3; omega
  | succ n ih =>
    intro a X6 k3 h1 h2 h3 hf h2c hj hk
    rw [f_X4_take_L46]
    show ok (if X6.1 4 i0 3 ≤ nI a then k3 X6 else _) P
    rw [hf 4 i0 3 (by omega)]
    refine ok_ite (fun c => ?_) (fun c => ?_)
    · refine hk X6 hf h2c (fun j hj2 => hj j ?_)
      have e : X1.1 4 i0 3 = nI a := by grind
      rw [e, nI_clamp (by omega)] at hj2
      exact hj2
    · have hlt : nI a < X1.1 4 i0 3 := by grind
      have ha : a < 6 := (nI_ltI (by omega) (by decide)).mp (show nI a < nI 6 by show nI a < (6 : Int32); grind)
      have hv : vp_in (nI a) 6 := nI_in ha (by decide)
      refine ok_gd hv (fun _ => ok_gd hv (fun _ => ?_))
      rw [lq_e, nI_clamp (by omega), nI_1]
      refine ih (a + 1) _ k3 (by omega) (by rw [← nI_1]; grind) (by omega) (fun k i p z => ?_) h2c (fun j hj2 => ?_) hk
      · rw [up_e, if_neg (fun y => z ⟨y.1, y.2.1⟩)]
        exact hf k i p z
      · rw [up_e]
        by_cases y : j = a
        · rw [if_pos ⟨rfl, rfl, y⟩, hf 6 i1 a (fun z => hne z.2), y]
        · rw [if_neg (fun z => y z.2.2)]
          exact hj j (by omega)
theorem tk_eq {X : SS} (hX : OKS X) {i0 i1 : Nat} (hne : i1 ≠ i0) : ok (f_X4_take X i0 i1) (fun r => r.1.1 4 i0 2 = X.1 4 i1 2 ∧ r.1.1 4 i0 3 = X.1 4 i1 3 ∧ (∀ j : Nat, j < (X.1 4 i1 2).toNatClampNeg → r.1.1 5 i0 j = X.1 5 i1 j) ∧ (∀ j : Nat, j < (X.1 4 i1 3).toNatClampNeg → r.1.1 6 i0 j = X.1 6 i1 j) ∧ ∀ k i p : Nat, i ≠ i0 → r.1.1 k i p = X.1 k i p) := by
  have r2 : (0 : Int32) ≤ X.1 4 i1 2 ∧ X.1 4 i1 2 ≤ (4 : Int32) := hX.at1 4 i1 2
  have r3 : (0 : Int32) ≤ X.1 4 i1 3 ∧ X.1 4 i1 3 ≤ (6 : Int32) := hX.at1 4 i1 3
  unfold f_X4_take
  rw [lq_e, lq_e]
  have e2 : (u1 (u1 X 4 i0 2 (X.1 4 i1 2)) 4 i0 3 ((u1 X 4 i0 2 (X.1 4 i1 2)).1 4 i1 3)).1 4 i0 2 = X.1 4 i1 2 := by rw [up_p (by decide), up_s]
  have e3 : (u1 (u1 X 4 i0 2 (X.1 4 i1 2)) 4 i0 3 ((u1 X 4 i0 2 (X.1 4 i1 2)).1 4 i1 3)).1 4 i0 3 = X.1 4 i1 3 := by rw [up_s, up_p (by decide)]
  have ef : ∀ k i p : Nat, i ≠ i0 → (u1 (u1 X 4 i0 2 (X.1 4 i1 2)) 4 i0 3 ((u1 X 4 i0 2 (X.1 4 i1 2)).1 4 i1 3)).1 k i p = X.1 k i p := fun k i p h => by rw [up_i h, up_i h]
  generalize (u1 (u1 X 4 i0 2 (X.1 4 i1 2)) 4 i0 3 ((u1 X 4 i0 2 (X.1 4 i1 2)).1 4 i1 3)) = X2 at e2 e3 ef
  refine tk_L18 (X1 := X2) hne (by rw [e2]; exact r2) 1000 0 X2 _ (by omega) (by rw [e2]; exact r2.1) (by omega) (fun _ _ _ _ => rfl) rfl (fun j hj => absurd hj (by omega)) (fun X4 f4 g4 h4 => ?_)
  have a3 : X4.1 4 i0 3 = X.1 4 i1 3 := by rw [f4 4 i0 3 (by omega), e3]
  refine tk_L46 (X1 := X4) hne (by rw [a3]; exact r3) 1000 0 X4 _ (by omega) (by rw [a3]; exact r3.1) (by omega) (fun _ _ _ _ => rfl) rfl (fun j hj => absurd hj (by omega)) (fun X8 f8 g8 h8 => ok_some ⟨?_, ?_, fun j hj => ?_, fun j hj => ?_, fun k i p h => ?_⟩)
  · rw [f8 4 i0 2 (by omega), f4 4 i0 2 (by omega), e2]
  · rw [f8 4 i0 3 (by omega), a3]
  · rw [f8 5 i0 j (by omega), h4 j (by rw [e2]; exact hj), ef 5 i1 j hne]
  · rw [h8 j (by rw [a3]; exact hj), f4 6 i1 j (by omega), ef 6 i1 j hne]
  · rw [f8 k i p (fun z => h z.2), f4 k i p (fun z => h z.2), ef k i p h]
def STP (X : SS) (i : Nat) (r : SS) : Prop := r.1 4 i 2 = X.1 4 40 2 ∧ r.1 4 i 3 = X.1 4 40 3 ∧ (∀ j : Nat, j < (X.1 4 40 2).toNatClampNeg → r.1 5 i j = X.1 5 40 j) ∧ (∀ j : Nat, j < (X.1 4 40 3).toNatClampNeg → r.1 6 i j = X.1 6 40 j) ∧ ∀ t : Nat, t < 40 → t ≠ i → r.1 4 t 2 = X.1 4 t 2 ∧ r.1 4 t 3 = X.1 4 t 3 ∧ (∀ j : Nat, r.1 5 t j = X.1 5 t j) ∧ ∀ j : Nat, r.1 6 t j = X.1 6 t j
theorem st_eq {X : SS} (hX : OKS X) (p0 : Int32) (hp : (0 : Int32) ≤ p0 ∧ p0 ≤ (7 : Int32)) {i2 : Nat} (hi : i2 < 40) : ok (f_X6_setTest X p0 i2) (fun r => STP X i2 r.1) := by
  unfold f_X6_setTest
  rw [lq_e]
  have q1 : IV TT X (u1 X 0 0 14 (X.1 0 0 14 + 1)) := IV.w1f hX rfl trivial rfl
  have k1 : ∀ k i p : Nat, k ≠ 0 → (u1 X 0 0 14 (X.1 0 0 14 + 1)).1 k i p = X.1 k i p := fun k i p h => up_k h
  generalize u1 X 0 0 14 (X.1 0 0 14 + 1) = X1 at q1 k1
  have hX1 := q1.oks
  refine ok_b1 (ok_and (s_X4_take (A := TT) (B := X1) X1 hX1 i2 40 trivial trivial (fun _ => trivial) (fun _ => trivial)) (tk_eq hX1 (i0 := i2) (i1 := 40) (by omega))) (fun X3 v2 w => ?_)
  obtain ⟨⟨hX3, -⟩, t1, t2, t3, t4, t5⟩ := w
  simp only at hX3 t1 t2 t3 t4 t5
  rw [lq_e]
  have q5 : IV TT X3 (u1 X3 4 i2 4 (X3.1 0 0 14)) := IV.w1f hX3.oks rfl trivial rfl
  have k5 : ∀ k i p : Nat, ¬ (k = 4 ∧ p = 4) → (u1 X3 4 i2 4 (X3.1 0 0 14)).1 k i p = X3.1 k i p := fun k i p h => by rw [up_e, if_neg (fun z => h ⟨z.1, z.2.2⟩)]
  generalize u1 X3 4 i2 4 (X3.1 0 0 14) = X5 at q5 k5
  have e6 : f_X4_erase X5 40 = some (u1 (u1 X5 4 40 2 0) 4 40 3 0, ()) := rfl
  rw [e6, b1_some]
  have q6 : IV TT X5 (u1 X5 4 40 2 0) := IV.w1 q5.oks rfl trivial (show (0 : Int32) ≤ (0 : Int32) ∧ (0 : Int32) ≤ (4 : Int32) from ⟨by decide, by decide⟩)
  have q7 : IV TT X5 (u1 (u1 X5 4 40 2 0) 4 40 3 0) := IV.w1 q6 rfl trivial (show (0 : Int32) ≤ (0 : Int32) ∧ (0 : Int32) ≤ (6 : Int32) from ⟨by decide, by decide⟩)
  have k7 : ∀ k i p : Nat, i ≠ 40 → (u1 (u1 X5 4 40 2 0) 4 40 3 0).1 k i p = X5.1 k i p := fun k i p h => by rw [up_i h, up_i h]
  have z7 : (u1 (u1 X5 4 40 2 0) 4 40 3 0).1 4 40 2 = (0 : Int32) ∧ (u1 (u1 X5 4 40 2 0) 4 40 3 0).1 4 40 3 = (0 : Int32) := ⟨by rw [up_p (by decide), up_s], up_s⟩
  generalize u1 (u1 X5 4 40 2 0) 4 40 3 0 = X7 at q7 k7 z7
  have h9 := s_X6_setTest_L38 (A := (fun k i p => (k = 12 ∧ p = 11) ∨ (k = 16 ∧ i = 1 ∧ p = 4) ∨ (k = 16 ∧ i = 1 ∧ p = 5) ∨ (k = 16 ∧ i = 1 ∧ p = 6) ∨ (k = 16 ∧ i = 1 ∧ p = 7) ∨ (k = 16 ∧ i = 1 ∧ p = 8) ∨ (k = 17 ∧ i = 1) ∨ (k = 18 ∧ i = 1) ∨ (k = 19 ∧ i = 1) ∨ (k = 20 ∧ i = 1))) (B := X7) p0 hp (by simp) (by simp) (by simp) (by simp) (by simp) (by simp) (by simp) (by simp) (by simp) (by simp) 1000 0 0 X7 (fun v10 X11 => some (X11, v10)) (FU.start (by decide) (by decide)) (show (0 : Int32) ≤ (0 : Int32) ∧ (0 : Int32) ≤ (40 : Int32) from ⟨by decide, by decide⟩) q7.oks.self z7 (fun v10 X11 h11 e11 => ok_some ⟨h11, e11⟩)
  refine ok_imp h9 (fun r w => ?_)
  have k9 : ∀ k i p : Nat, k = 4 ∨ k = 5 ∨ k = 6 → r.1.1 k i p = X7.1 k i p := fun k i p h => w.1.same (by rcases h with rfl | rfl | rfl <;> simp)
  have full : ∀ k t p : Nat, k = 4 ∨ k = 5 ∨ k = 6 → ¬ (k = 4 ∧ p = 4) → t < 40 → r.1.1 k t p = X3.1 k t p := fun k t p h h2 h3 => by rw [k9 k t p h, k7 k t p (by omega), k5 k t p h2]
  refine ⟨?_, ?_, fun j hj => ?_, fun j hj => ?_, fun t h1 h2 => ⟨?_, ?_, fun j => ?_, fun j => ?_⟩⟩
  · rw [full 4 i2 2 (by omega) (by omega) hi, t1, k1 4 40 2 (by decide)]
  · rw [full 4 i2 3 (by omega) (by omega) hi, t2, k1 4 40 3 (by decide)]
  · rw [full 5 i2 j (by omega) (by omega) hi, t3 j (by rw [k1 4 40 2 (by decide)]; exact hj), k1 5 40 j (by decide)]
  · rw [full 6 i2 j (by omega) (by omega) hi, t4 j (by rw [k1 4 40 3 (by decide)]; exact hj), k1 6 40 j (by decide)]
  · rw [full 4 t 2 (by omega) (by omega) h1, t5 4 t 2 h2, k1 4 t 2 (by decide)]
  · rw [full 4 t 3 (by omega) (by omega) h1, t5 4 t 3 h2, k1 4 t 3 (by decide)]
  · rw [full 5 t j (by omega) (by omega) h1, t5 5 t j h2, k1 5 t j (by decide)]
  · rw [full 6 t j (by omega) (by omega) h1, t5 6 t j h2, k1 6 t j (by decide)]
/-! the same of the reference -/
theorem pu_L29 {M1 : SS} {t : Nat} (ht_ : t < 40) (hc : (0 : Int32) ≤ M1.1 26 0 1 ∧ M1.1 26 0 1 ≤ (4 : Int32)) {P : SS × Int32 → Prop} : ∀ (n a : Nat) (M9 : SS) (k6 : SS → Option (SS × Int32)), 5 ≤ a + n → nI a ≤ M1.1 26 0 1 → a ≤ 4 → (∀ k i p : Nat, ¬ (k = 36 ∧ 4 * t ≤ p ∧ p < 4 * t + 4) → M9.1 k i p = M1.1 k i p) → (∀ j : Nat, j < a → M9.1 36 0 (4 * t + j) = M1.1 30 0 j) → OKS M9 →
    (∀ M8 : SS, (∀ k i p : Nat, ¬ (k = 36 ∧ 4 * t ≤ p ∧ p < 4 * t + 4) → M8.1 k i p = M1.1 k i p) → (∀ j : Nat, j < (M1.1 26 0 1).toNatClampNeg → M8.1 36 0 (4 * t + j) = M1.1 30 0 j) → OKS M8 → ok (k6 M8) P) → ok (f_X7_puts_L29 (nI t) n (nI a) M9 k6) P := by
  intro n
  induction n with
  | zero => intro a M9 k6 h1 h2 h3; omega
  | succ n ih =>
    intro a M9 k6 h1 h2 h3 hf hj hO hk
    rw [f_X7_puts_L29]
    show ok (if M9.1 26 0 1 ≤ nI a then k6 M9 else _) P
    rw [hf 26 0 1 (by omega)]
    refine ok_ite (fun c => ?_) (fun c => ?_)
    · refine hk M9 hf (fun j hj2 => hj j ?_) hO
      have e : M1.1 26 0 1 = nI a := by grind
      rw [e, nI_clamp (by omega)] at hj2
      exact hj2
    · have hlt : nI a < M1.1 26 0 1 := by grind
      have ha : a < 4 := (nI_ltI (by omega) (by decide)).mp (show nI a < nI 4 by show nI a < (4 : Int32); grind)
      have hix := ix_lin (p := t) (v := a) 4 (by decide) (by omega) (by omega)
      have hvx : vp_in (((4 : Int32) * nI t) + nI a) 160 := by
        rw [show (4 : Int32) = nI 4 from rfl, hix.1]
        exact nI_in (by omega) (by decide)
      refine ok_gd (nI_in ha (by decide)) (fun _ => ok_gd hvx (fun _ => ?_))
      rw [lq_e, nI_clamp (by omega), nI_1, show (((4 : Int32) * nI t) + nI a).toNatClampNeg = 4 * t + a from hix.2, hf 30 0 a (by omega)]
      have hO2 : IV TT M9 (u1 M9 36 0 (4 * t + a) (M1.1 30 0 a)) := IV.w1f hO rfl trivial rfl
      refine ih (a + 1) _ k6 (by omega) (by rw [← nI_1]; grind) (by omega) (fun k i p z => ?_) (fun j hj2 => ?_) hO2.oks hk
      · rw [up_e, if_neg (fun y => z ⟨y.1, by omega⟩)]
        exact hf k i p z
      · rw [up_e]
        by_cases y : j = a
        · rw [if_pos ⟨rfl, rfl, by omega⟩, y]
        · rw [if_neg (fun z => y (by omega))]
          exact hj j (by omega)
theorem pu_L65 {M1 : SS} {t : Nat} (ht_ : t < 40) (hc : (0 : Int32) ≤ M1.1 26 0 2 ∧ M1.1 26 0 2 ≤ (6 : Int32)) {P : SS × Int32 → Prop} : ∀ (n a : Nat) (M9 : SS) (k6 : SS → Option (SS × Int32)), 7 ≤ a + n → nI a ≤ M1.1 26 0 2 → a ≤ 6 → (∀ k i p : Nat, ¬ (k = 37 ∧ 6 * t ≤ p ∧ p < 6 * t + 6) → M9.1 k i p = M1.1 k i p) → (∀ j : Nat, j < a → M9.1 37 0 (6 * t + j) = M1.1 31 0 j) → OKS M9 →
    (∀ M8 : SS, (∀ k i p : Nat, ¬ (k = 37 ∧ 6 * t ≤ p ∧ p < 6 * t + 6) → M8.1 k i p = M1.1 k i p) → (∀ j : Nat, j < (M1.1 26 0 2).toNatClampNeg → M8.1 37 0 (6 * t + j) = M1.1 31 0 j) → OKS M8 → ok (k6 M8) P) → ok (f_X7_puts_L65 (nI t) n (nI a) M9 k6) P := by
  intro n
  induction n with
  | zero => intro a M9 k6 h1 h2 h3; omega
  | succ n ih =>
    intro a M9 k6 h1 h2 h3 hf hj hO hk
    rw [f_X7_puts_L65]
    show ok (if M9.1 26 0 2 ≤ nI a then k6 M9 else _) P
    rw [hf 26 0 2 (by omega)]
    refine ok_ite (fun c => ?_) (fun c => ?_)
    · refine hk M9 hf (fun j hj2 => hj j ?_) hO
      have e : M1.1 26 0 2 = nI a := by grind
      rw [e, nI_clamp (by omega)] at hj2
      exact hj2
    · have hlt : nI a < M1.1 26 0 2 := by grind
      have ha : a < 6 := (nI_ltI (by omega) (by decide)).mp (show nI a < nI 6 by show nI a < (6 : Int32); grind)
      have hix := ix_lin (p := t) (v := a) 6 (by decide) (by omega) (by omega)
      have hvx : vp_in (((6 : Int32) * nI t) + nI a) 240 := by
        rw [show (6 : Int32) = nI 6 from rfl, hix.1]
        exact nI_in (by omega) (by decide)
      refine ok_gd (nI_in ha (by decide)) (fun _ => ok_gd hvx (fun _ => ?_))
      rw [lq_e, nI_clamp (by omega), nI_1, show (((6 : Int32) * nI t) + nI a).toNatClampNeg = 6 * t + a from hix.2, hf 31 0 a (by omega)]
      have hO2 : IV TT M9 (u1 M9 37 0 (6 * t + a) (M1.1 31 0 a)) := IV.w1f hO rfl trivial rfl
      refine ih (a + 1) _ k6 (by omega) (by rw [← nI_1]; grind) (by omega) (fun k i p z => ?_) (fun j hj2 => ?_) hO2.oks hk
      · rw [up_e, if_neg (fun y => z ⟨y.1, by omega⟩)]
        exact hf k i p z
      · rw [up_e]
        by_cases y : j = a
        · rw [if_pos ⟨rfl, rfl, by omega⟩, y]
        · rw [if_neg (fun z => y (by omega))]
          exact hj j (by omega)
def PTP (M : SS) (t : Nat) (r : SS) : Prop := r.1 34 0 t = M.1 26 0 1 ∧ r.1 35 0 t = M.1 26 0 2 ∧ (∀ j : Nat, j < (M.1 26 0 1).toNatClampNeg → r.1 36 0 (4 * t + j) = M.1 30 0 j) ∧ (∀ j : Nat, j < (M.1 26 0 2).toNatClampNeg → r.1 37 0 (6 * t + j) = M.1 31 0 j) ∧ (∀ u : Nat, u ≠ t → r.1 34 0 u = M.1 34 0 u ∧ r.1 35 0 u = M.1 35 0 u) ∧ (∀ x : Nat, ¬ (4 * t ≤ x ∧ x < 4 * t + 4) → r.1 36 0 x = M.1 36 0 x) ∧ ∀ x : Nat, ¬ (6 * t ≤ x ∧ x < 6 * t + 6) → r.1 37 0 x = M.1 37 0 x
theorem pu_eq {M : SS} (hM : OKS M) {k q : Nat} (hk : k ≤ 7) (hq : q ≤ 4) : ok (f_X7_puts M (nI k) (nI q)) (fun r => PTP M (5 * k + q) r.1) := by
  have r1 : (0 : Int32) ≤ M.1 26 0 1 ∧ M.1 26 0 1 ≤ (4 : Int32) := hM.at1 26 0 1
  have r2 : (0 : Int32) ≤ M.1 26 0 2 ∧ M.1 26 0 2 ≤ (6 : Int32) := hM.at1 26 0 2
  unfold f_X7_puts
  have hix : ((5 : Int32) * nI k) + nI q = nI (5 * k + q) := by rw [show (5 : Int32) = nI 5 from rfl, pk_mul, nI_add]
  have ht_ : 5 * k + q < 40 := by omega
  rw [lq_e, hix]
  generalize 5 * k + q = t at ht_
  have htc : (nI t).toNatClampNeg = t := nI_clamp (by omega)
  have hv : vp_in (nI t) 40 := nI_in ht_ (by decide)
  refine ok_gd hv (fun _ => ?_)
  rw [lq_e]
  refine ok_gd hv (fun _ => ?_)
  rw [lq_e, htc, up_k (k := 26) (by decide)]
  have q3 : IV TT M (u1 M 34 0 t (M.1 26 0 1)) := IV.w1 hM rfl trivial r1
  have q5 : IV TT M (u1 (u1 M 34 0 t (M.1 26 0 1)) 35 0 t (M.1 26 0 2)) := IV.w1 q3 rfl trivial r2
  have k5 : ∀ k i p : Nat, ¬ ((k = 34 ∨ k = 35) ∧ p = t) → (u1 (u1 M 34 0 t (M.1 26 0 1)) 35 0 t (M.1 26 0 2)).1 k i p = M.1 k i p := fun k i p h => by
    rw [up_e, if_neg (fun z => h ⟨Or.inr z.1, z.2.2⟩), up_e, if_neg (fun z => h ⟨Or.inl z.1, z.2.2⟩)]
  have a34 : (u1 (u1 M 34 0 t (M.1 26 0 1)) 35 0 t (M.1 26 0 2)).1 34 0 t = M.1 26 0 1 := by rw [up_k (by decide), up_s]
  have a35 : (u1 (u1 M 34 0 t (M.1 26 0 1)) 35 0 t (M.1 26 0 2)).1 35 0 t = M.1 26 0 2 := up_s
  generalize u1 (u1 M 34 0 t (M.1 26 0 1)) 35 0 t (M.1 26 0 2) = M5 at q5 k5 a34 a35
  have b1 : M5.1 26 0 1 = M.1 26 0 1 := k5 26 0 1 (by omega)
  refine pu_L29 (M1 := M5) ht_ (by rw [b1]; exact r1) 1000 0 M5 _ (by omega) (by rw [b1]; exact r1.1) (by omega) (fun _ _ _ _ => rfl) (fun j hj => absurd hj (by omega)) q5.oks (fun M7 f7 h7 o7 => ?_)
  have b2 : M7.1 26 0 2 = M.1 26 0 2 := by rw [f7 26 0 2 (by omega), k5 26 0 2 (by omega)]
  refine pu_L65 (M1 := M7) ht_ (by rw [b2]; exact r2) 1000 0 M7 _ (by omega) (by rw [b2]; exact r2.1) (by omega) (fun _ _ _ _ => rfl) (fun j hj => absurd hj (by omega)) o7 (fun M11 f11 h11 o11 => ?_)
  have ec : f_X7_clears M11 = some (u1 (u1 M11 26 0 1 0) 26 0 2 0, M11.1 26 0 1 + M11.1 26 0 2) := rfl
  rw [ec, b1_some]
  have q12 : IV TT M11 (u1 M11 26 0 1 0) := IV.w1 o11 rfl trivial (show (0 : Int32) ≤ (0 : Int32) ∧ (0 : Int32) ≤ (4 : Int32) from ⟨by decide, by decide⟩)
  have q15 : IV TT M11 (u1 (u1 M11 26 0 1 0) 26 0 2 0) := IV.w1 q12 rfl trivial (show (0 : Int32) ≤ (0 : Int32) ∧ (0 : Int32) ≤ (6 : Int32) from ⟨by decide, by decide⟩)
  have k15 : ∀ k i p : Nat, k ≠ 26 → (u1 (u1 M11 26 0 1 0) 26 0 2 0).1 k i p = M11.1 k i p := fun k i p h => by rw [up_k h, up_k h]
  have z15 : (u1 (u1 M11 26 0 1 0) 26 0 2 0).1 26 0 1 = (0 : Int32) ∧ (u1 (u1 M11 26 0 1 0) 26 0 2 0).1 26 0 2 = (0 : Int32) := ⟨by rw [up_p (by decide), up_s], up_s⟩
  generalize u1 (u1 M11 26 0 1 0) 26 0 2 0 = M15 at q15 k15 z15
  have fin : ∀ v17 : Int32, ok (f_X7_puts_J120 M15 (nI t) (nI k) v17) (fun r => PTP M t r.1) := by
    intro v17
    unfold f_X7_puts_J120
    rw [lq_e]
    have q19 : IV TT M15 (u1 M15 26 0 7 (M15.1 26 0 7 + v17)) := IV.w1f q15.oks rfl trivial rfl
    have k19 : ∀ k i p : Nat, k ≠ 26 → (u1 M15 26 0 7 (M15.1 26 0 7 + v17)).1 k i p = M15.1 k i p := fun k i p h => up_k h
    have z19 : (u1 M15 26 0 7 (M15.1 26 0 7 + v17)).1 26 0 1 = (0 : Int32) ∧ (u1 M15 26 0 7 (M15.1 26 0 7 + v17)).1 26 0 2 = (0 : Int32) := ⟨by rw [up_p (by decide), z15.1], by rw [up_p (by decide), z15.2]⟩
    generalize u1 M15 26 0 7 (M15.1 26 0 7 + v17) = M19 at q19 k19 z19
    refine ok_gd hv (fun _ => ?_)
    rw [lq_e, htc]
    have q21 : IV TT M19 (u1 M19 38 0 t (M19.1 26 0 7)) := IV.w1f q19.oks rfl trivial rfl
    have k21 : ∀ k i p : Nat, k ≠ 38 → (u1 M19 38 0 t (M19.1 26 0 7)).1 k i p = M19.1 k i p := fun k i p h => up_k h
    have z21 : (u1 M19 38 0 t (M19.1 26 0 7)).1 26 0 1 = (0 : Int32) ∧ (u1 M19 38 0 t (M19.1 26 0 7)).1 26 0 2 = (0 : Int32) := ⟨by rw [up_k (by decide), z19.1], by rw [up_k (by decide), z19.2]⟩
    generalize u1 M19 38 0 t (M19.1 26 0 7) = M21 at q21 k21 z21
    have hkk : (0 : Int32) ≤ nI k ∧ nI k ≤ (7 : Int32) := ⟨nI_pos' (by omega), (nI_leI (by omega) (by decide : (7 : Nat) < 2 ^ 31)).mpr hk⟩
    have h9 := s_X7_puts_L140 (A := (fun k i p => (k = 26 ∧ i = 0 ∧ p = 38) ∨ (k = 26 ∧ i = 0 ∧ p = 39) ∨ (k = 26 ∧ i = 0 ∧ p = 40) ∨ (k = 42 ∧ i = 0) ∨ (k = 53 ∧ i = 0) ∨ (k = 54 ∧ i = 0))) (B := M21) (nI k) hkk (by simp) (by simp) (by simp) (by simp) (by simp) (by simp) 1000 0 0 M21 (fun v23 M24 => some (M24, v23)) (FU.start (by decide) (by decide)) (show (0 : Int32) ≤ (0 : Int32) ∧ (0 : Int32) ≤ (40 : Int32) from ⟨by decide, by decide⟩) q21.oks.self z21 (fun v10 X11 h11 e11 => ok_some ⟨h11, e11⟩)
    refine ok_imp h9 (fun r w => ?_)
    have full : ∀ k p : Nat, k = 34 ∨ k = 35 ∨ k = 36 ∨ k = 37 → r.1.1 k 0 p = M11.1 k 0 p := fun k p h => by
      have := w.1.same (k := k) (i := 0) (p := p) (by rcases h with rfl | rfl | rfl | rfl <;> simp)
      rw [this, k21 k 0 p (by omega), k19 k 0 p (by omega), k15 k 0 p (by omega)]
    refine ⟨?_, ?_, fun j hj => ?_, fun j hj => ?_, fun u hu => ⟨?_, ?_⟩, fun x hx => ?_, fun x hx => ?_⟩
    · rw [full 34 t (by omega), f11 34 0 t (by omega), f7 34 0 t (by omega), a34]
    · rw [full 35 t (by omega), f11 35 0 t (by omega), f7 35 0 t (by omega), a35]
    · have hj4 : j < 4 := by
        have := cl_le (n := 4) r1.2 (by decide)
        omega
      rw [full 36 _ (by omega), f11 36 0 _ (by omega), h7 j (by rw [b1]; exact hj), k5 30 0 j (by omega)]
    · rw [full 37 _ (by omega), h11 j (by rw [b2]; exact hj), f7 31 0 j (by omega), k5 31 0 j (by omega)]
    · rw [full 34 u (by omega), f11 34 0 u (by omega), f7 34 0 u (by omega), k5 34 0 u (by omega)]
    · rw [full 35 u (by omega), f11 35 0 u (by omega), f7 35 0 u (by omega), k5 35 0 u (by omega)]
    · rw [full 36 x (by omega), f11 36 0 x (by omega), f7 36 0 x (by omega), k5 36 0 x (by omega)]
    · rw [full 37 x (by omega), f11 37 0 x (by omega), f7 37 0 x (by omega), k5 37 0 x (by omega)]
  exact ok_ite (fun _ => fin 0) (fun _ => fin 1)
/-- the tests after one was set -/
theorem CT3_set {X M X9 M9 X2 M2 : SS} (hX : OKS X) {t : Nat} (ht_ : t < 40) (h : CT3 X M) (h2 : CT2 X M) (c2 : X.1 4 40 2 = M.1 26 0 1) (c3 : X.1 4 40 3 = M.1 26 0 2) (hx : STP X9 t X2) (hm : PTP M9 t M2)
    (kx : ∀ k i p : Nat, k = 4 ∨ k = 5 ∨ k = 6 → X9.1 k i p = X.1 k i p) (km : ∀ k p : Nat, k = 34 ∨ k = 35 ∨ k = 36 ∨ k = 37 ∨ k = 30 ∨ k = 31 ∨ k = 26 → M9.1 k 0 p = M.1 k 0 p) : CT3 X2 M2 := by
  obtain ⟨x1, x2, x3, x4, x5⟩ := hx
  obtain ⟨m1, m2, m3, m4, m5, m6, m7⟩ := hm
  rw [kx 4 40 2 (by omega)] at x1 x3
  rw [kx 4 40 3 (by omega)] at x2 x4
  rw [km 26 1 (by omega)] at m1 m3
  rw [km 26 2 (by omega)] at m2 m4
  intro u hu
  by_cases q : u = t
  · subst q
    refine ⟨by rw [x1, m1, c2], by rw [x2, m2, c3], fun j hj => ?_, fun j hj => ?_⟩
    · rw [x1] at hj
      rw [x3 j hj, m3 j (by rw [← c2]; exact hj), kx 5 40 j (by omega), km 30 j (by omega)]
      exact h2.1 j hj
    · rw [x2] at hj
      rw [x4 j hj, m4 j (by rw [← c3]; exact hj), kx 6 40 j (by omega), km 31 j (by omega)]
      exact h2.2 j hj
  · obtain ⟨a1, a2, a3, a4⟩ := h u hu
    obtain ⟨y1, y2, y3, y4⟩ := x5 u hu q
    refine ⟨by rw [y1, (m5 u q).1, kx 4 u 2 (by omega), km 34 u (by omega), a1], by rw [y2, (m5 u q).2, kx 4 u 3 (by omega), km 35 u (by omega), a2], fun j hj => ?_, fun j hj => ?_⟩
    · rw [y1, kx 4 u 2 (by omega)] at hj
      have r : (0 : Int32) ≤ X.1 4 u 2 ∧ X.1 4 u 2 ≤ (4 : Int32) := hX.at1 4 u 2
      have hj4 := cl_le (n := 4) r.2 (by decide)
      rw [y3 j, kx 5 u j (by omega), m6 (4 * u + j) (by omega), km 36 _ (by omega)]
      exact a3 j hj
    · rw [y2, kx 4 u 3 (by omega)] at hj
      have r : (0 : Int32) ≤ X.1 4 u 3 ∧ X.1 4 u 3 ≤ (6 : Int32) := hX.at1 4 u 3
      have hj4 := cl_le (n := 6) r.2 (by decide)
      rw [y4 j, kx 6 u j (by omega), m7 (6 * u + j) (by omega), km 37 _ (by omega)]
      exact a4 j hj
theorem t_test {X M O : SS} (hR : REL X M) (p : Int32) : ∃ X2 O2 k M2 b, f_L_test X O p = some (X2, O2, k) ∧ f_X7_test M p = some (M2, b) ∧ REL X2 M2 ∧ M2.1 26 0 9 = k := by
  have hX := hR.1
  have hM := hR.2.1
  obtain ⟨c1, c2, c3, c4, c5, c6⟩ := hR.2.2.1
  have hC := hR.2.2.2
  have r1 : (0 : Int32) ≤ M.1 26 0 3 ∧ M.1 26 0 3 ≤ (8 : Int32) := hM.at1 26 0 3
  by_cases a : p < 0 ∨ X.1 0 0 9 ≤ p
  · have e1 : f_L_test X O p = some (X, O, 1) := by
      unfold f_L_test f_X6_test
      rw [kataAt_no a]
      rfl
    have e2 : f_X7_test M p = some (u1 M 26 0 9 1, 0) := by
      unfold f_X7_test
      rw [isKata_eq hM, if_pos (by rw [← c4]; exact a)]
      rfl
    exact ⟨_, _, _, _, _, e1, e2, rel_fail hR 1 (by decide), up_s⟩
  · have hv : vp_in p 8 := vp_of (by decide) (by grind) (show p < (8 : Int32) by grind)
    have c6p := c6 p.toNatClampNeg
    have r7 : (0 : Int32) ≤ X.1 7 p.toNatClampNeg 1 ∧ X.1 7 p.toNatClampNeg 1 ≤ (5 : Int32) := hX.at1 7 p.toNatClampNeg 1
    by_cases c : X.1 7 p.toNatClampNeg 1 < (5 : Int32)
    · have hv5 : vp_in (X.1 7 p.toNatClampNeg 1) 5 := vp_of (by decide) r7.1 (show X.1 7 p.toNatClampNeg 1 < (5 : Int32) by grind)
      have h9v : IV TT X (u1 X 7 p.toNatClampNeg 1 (X.1 7 p.toNatClampNeg 1 + 1)) := IV.w1 hX rfl trivial (show (0 : Int32) ≤ X.1 7 p.toNatClampNeg 1 + 1 ∧ X.1 7 p.toNatClampNeg 1 + 1 ≤ (5 : Int32) from ⟨by grind, by grind⟩)
      have h9 : OKS (u1 X 7 p.toNatClampNeg 1 (X.1 7 p.toNatClampNeg 1 + 1)) := h9v.oks
      have h8v : IV TT M (u1 M 33 0 p.toNatClampNeg (M.1 33 0 p.toNatClampNeg + 1)) := IV.w1 hM rfl trivial (show (0 : Int32) ≤ M.1 33 0 p.toNatClampNeg + 1 ∧ M.1 33 0 p.toNatClampNeg + 1 ≤ (5 : Int32) from ⟨by grind, by grind⟩)
      have h8 : OKS (u1 M 33 0 p.toNatClampNeg (M.1 33 0 p.toNatClampNeg + 1)) := h8v.oks
      have hk7 : p.toNatClampNeg < 8 := cl_lt hv
      have hq4 : (X.1 7 p.toNatClampNeg 1).toNatClampNeg < 5 := cl_lt hv5
      have hpu := pu_eq h8 (k := p.toNatClampNeg) (q := (M.1 33 0 p.toNatClampNeg).toNatClampNeg) (by omega) (by rw [← c6p]; omega)
      rw [cl_nI (by grind), cl_nI (show (0 : Int32) ≤ M.1 33 0 p.toNatClampNeg by grind)] at hpu
      obtain ⟨⟨X12, v11⟩, es, hs, hst⟩ := ok_and (w_X6_setTest _ h9 p ⟨by grind, by grind⟩ (5 * p.toNatClampNeg + (X.1 7 p.toNatClampNeg 1).toNatClampNeg)) (st_eq h9 p ⟨by grind, by grind⟩ (i2 := 5 * p.toNatClampNeg + (X.1 7 p.toNatClampNeg 1).toNatClampNeg) (by omega))
      obtain ⟨⟨M11, v10⟩, em, hm, hmt⟩ := ok_and (w_X7_puts _ h8 p ⟨by grind, by grind⟩ (M.1 33 0 p.toNatClampNeg) ⟨by grind, by grind⟩) hpu
      have e1 : f_L_test X O p = some (X12, u2 O 56 0 0 v11.toInt64, 0) := by
        unfold f_L_test f_X6_test
        rw [kataAt_in hX a]
        rw [e0_inl, if_pos c]
        rw [lq_e, lq_e, gd_t hv5, es]
        rfl
      have e2 : f_X7_test M p = some (u1 M11 26 0 9 0, v10) := by
        unfold f_X7_test
        rw [isKata_eq hM, if_neg (by rw [← c4]; exact a)]
        rw [b0_some, if_neg (by decide), gd_t hv, if_neg (by grind), gd_t hv, gd_t hv]
        rw [lq_e, gd_t hv]
        have ez : (u1 M 33 0 p.toNatClampNeg (M.1 33 0 p.toNatClampNeg + 1)).1 33 0 p.toNatClampNeg - 1 = M.1 33 0 p.toNatClampNeg := by
          rw [up_s]
          grind
        rw [ez, em]
        rfl
      have hm9v : IV TT M11 (u1 M11 26 0 9 0) := IV.w1 hm.1.oks rfl trivial (by decide)
      have hm9 : OKS (u1 M11 26 0 9 0) := hm9v.oks
      refine ⟨_, _, _, _, _, e1, e2, ⟨hs.1.oks, hm9, ⟨?_, ?_, ?_, ?_, ?_, fun i => ?_⟩, ?_⟩, up_s⟩
      · rw [hs.1.same (by simp), up_k (by decide), up_p (by decide), hm.1.same (by simp), up_k (by decide), c1]
      · rw [up_p (by decide)]
        exact hs.2.1.trans hm.2.1.symm
      · rw [up_p (by decide)]
        exact hs.2.2.trans hm.2.2.symm
      · rw [hs.1.same (by simp), up_k (by decide), up_p (by decide), hm.1.same (by simp), up_k (by decide), c4]
      · rw [hs.1.same (by simp), up_k (by decide), up_p (by decide), hm.1.same (by simp), up_k (by decide), c5]
      · have hx7 : X12.1 7 i 1 = (u1 X 7 p.toNatClampNeg 1 (X.1 7 p.toNatClampNeg 1 + 1)).1 7 i 1 := hs.1.same (by simp)
        have hm7 : M11.1 33 0 i = (u1 M 33 0 p.toNatClampNeg (M.1 33 0 p.toNatClampNeg + 1)).1 33 0 i := hm.1.same (by simp)
        rw [hx7, up_k (k := 33) (by decide), hm7, up_e, up_e]
        by_cases z : i = p.toNatClampNeg
        · rw [if_pos ⟨rfl, z, rfl⟩, if_pos ⟨rfl, rfl, z⟩, c6p]
        · rw [if_neg (fun q => z q.2.1), if_neg (fun q => z q.2.2), c6]
      · refine ⟨hC.1.k (by rw [hs.1.same (by simp), up_k (by decide)]) (fun _ => by rw [hs.1.same (by simp), up_k (by decide)]) (fun _ => by rw [hs.1.same (by simp), up_k (by decide)]) (fun _ _ => by rw [up_k (by decide), hm.1.same (by simp), up_k (by decide)]) (fun _ _ => by rw [up_k (by decide), hm.1.same (by simp), up_k (by decide)]), ⟨fun j hj => ?_, fun j hj => ?_⟩, ?_, hC.2.2.2.1.k (by rw [hs.1.same (by simp), up_k (by decide)]) (fun _ => hs.1.same2 (by simp)) (by rw [up_p (by decide), hm.1.same (by simp), up_k (by decide)]) (fun _ => hm.1.same2 (by simp)), hC.2.2.2.2.k (by rw [hs.1.same (by simp), up_k (by decide)]) (by rw [hs.1.same (by simp), up_k (by decide)]) (by rw [hs.1.same (by simp), up_k (by decide)]) (by rw [hs.1.same (by simp), up_k (by decide)]) (fun _ => by rw [hs.1.same (by simp), up_k (by decide)]) (by rw [up_p (by decide), hm.1.same (by simp), up_k (by decide)]) (by rw [up_p (by decide), hm.1.same (by simp), up_k (by decide)]) (by rw [up_p (by decide), hm.1.same (by simp), up_k (by decide)]) (by rw [up_p (by decide), hm.1.same (by simp), up_k (by decide)]) (fun _ => by rw [up_k (by decide), hm.1.same (by simp), up_k (by decide)])⟩
        · rw [show X12.1 4 40 2 = (0 : Int32) from hs.2.1] at hj
          exact absurd hj (Nat.not_lt_zero _)
        · rw [show X12.1 4 40 3 = (0 : Int32) from hs.2.2] at hj
          exact absurd hj (Nat.not_lt_zero _)
        · rw [← c6p] at hmt
          have hmt2 : PTP (u1 M 33 0 p.toNatClampNeg (M.1 33 0 p.toNatClampNeg + 1)) (5 * p.toNatClampNeg + (X.1 7 p.toNatClampNeg 1).toNatClampNeg) (u1 M11 26 0 9 0) := by
            obtain ⟨n1, n2, n3, n4, n5, n6, n7⟩ := hmt
            exact ⟨n1, n2, n3, n4, n5, n6, n7⟩
          exact CT3_set hX (show 5 * p.toNatClampNeg + (X.1 7 p.toNatClampNeg 1).toNatClampNeg < 40 by omega) hC.2.2.1 hC.2.1 c2 c3 hst hmt2 (fun k i p h => up_k (by omega)) (fun k p h => up_k (by omega))
    · have e1 : f_L_test X O p = some (X, O, 2) := by
        unfold f_L_test f_X6_test
        rw [kataAt_in hX a]
        rw [e0_inl, if_neg c]
        rfl
      have e2 : f_X7_test M p = some (u1 M 26 0 9 2, 0) := by
        unfold f_X7_test
        rw [isKata_eq hM, if_neg (by rw [← c4]; exact a)]
        rw [b0_some, if_neg (by decide), gd_t hv, if_pos (by grind)]
        rfl
      exact ⟨_, _, _, _, _, e1, e2, rel_fail hR 2 (by decide), up_s⟩
theorem testAt_no {X : SS} {i : Nat} {q : Int32} (h : q < 0 ∨ X.1 7 i 1 ≤ q) : f_X6_testAt X i q = some (.inr "java/lang/IndexOutOfBoundsException") := by
  unfold f_X6_testAt
  by_cases z : q < 0
  · rw [if_pos z]
  · rw [if_neg z, if_neg (by grind)]
theorem testAt_in {X : SS} (hX : OKS X) {i : Nat} {q : Int32} (h : ¬ (q < 0 ∨ X.1 7 i 1 ≤ q)) : f_X6_testAt X i q = some (.inl (5 * i + q.toNatClampNeg)) := by
  have r1 : (0 : Int32) ≤ X.1 7 i 1 ∧ X.1 7 i 1 ≤ (5 : Int32) := hX.at1 7 i 1
  unfold f_X6_testAt
  rw [if_neg (fun z => h (Or.inl z)), if_pos (by grind), gd_t (vp_of (by decide) (by grind) (show q < (5 : Int32) by grind))]
theorem isTest_no {M : SS} (hM : OKS M) {p q : Int32} (h : (p < 0 ∨ M.1 26 0 3 ≤ p) ∨ (q < 0 ∨ M.1 33 0 p.toNatClampNeg ≤ q)) : f_X7_isTest M p q = some 0 := by
  have r1 : (0 : Int32) ≤ M.1 26 0 3 ∧ M.1 26 0 3 ≤ (8 : Int32) := hM.at1 26 0 3
  have r2 : (0 : Int32) ≤ M.1 33 0 p.toNatClampNeg ∧ M.1 33 0 p.toNatClampNeg ≤ (5 : Int32) := hM.at1 33 0 p.toNatClampNeg
  unfold f_X7_isTest
  rw [isKata_eq hM]
  by_cases a : p < 0 ∨ M.1 26 0 3 ≤ p
  · rw [if_pos a]
    rfl
  · rw [if_neg a]
    rw [b0_some, if_neg (by decide), gd_t (vp_of (by decide) (by grind) (show p < (8 : Int32) by grind)), in_eq]
    have h2 : q < 0 ∨ M.1 33 0 p.toNatClampNeg ≤ q := h.elim (fun z => absurd z a) id
    rw [if_pos (show q < 0 ∨ M.1 33 0 p.toNatClampNeg - 1 < q by grind)]
    rfl
theorem isTest_in {M : SS} (hM : OKS M) {p q : Int32} (a : ¬ (p < 0 ∨ M.1 26 0 3 ≤ p)) (h : ¬ (q < 0 ∨ M.1 33 0 p.toNatClampNeg ≤ q)) : f_X7_isTest M p q = some 1 := by
  have r1 : (0 : Int32) ≤ M.1 26 0 3 ∧ M.1 26 0 3 ≤ (8 : Int32) := hM.at1 26 0 3
  have r2 : (0 : Int32) ≤ M.1 33 0 p.toNatClampNeg ∧ M.1 33 0 p.toNatClampNeg ≤ (5 : Int32) := hM.at1 33 0 p.toNatClampNeg
  unfold f_X7_isTest
  rw [isKata_eq hM, if_neg a]
  rw [b0_some, if_neg (by decide), gd_t (vp_of (by decide) (by grind) (show p < (8 : Int32) by grind)), in_eq, if_neg (show ¬ (q < 0 ∨ M.1 33 0 p.toNatClampNeg - 1 < q) by grind)]
  rfl
theorem t_fix {X M O : SS} (hR : REL X M) (p q : Int32) : ∃ X2 O2 k M2 b, f_L_fix X O p q = some (X2, O2, k) ∧ f_X7_fix M p q = some (M2, b) ∧ REL X2 M2 ∧ M2.1 26 0 9 = k := by
  have hX := hR.1
  have hM := hR.2.1
  obtain ⟨c1, c2, c3, c4, c5, c6⟩ := hR.2.2.1
  have hC := hR.2.2.2
  have r1 : (0 : Int32) ≤ M.1 26 0 3 ∧ M.1 26 0 3 ≤ (8 : Int32) := hM.at1 26 0 3
  by_cases a : p < 0 ∨ X.1 0 0 9 ≤ p
  · have e1 : f_L_fix X O p q = some (X, O, 1) := by
      unfold f_L_fix f_X6_fix
      rw [kataAt_no a]
      rfl
    have e2 : f_X7_fix M p q = some (u1 M 26 0 9 1, 0) := by
      unfold f_X7_fix
      rw [isTest_no hM (Or.inl (by rw [← c4]; exact a))]
      rfl
    exact ⟨_, _, _, _, _, e1, e2, rel_fail hR 1 (by decide), up_s⟩
  · have c6p := c6 p.toNatClampNeg
    have r7 : (0 : Int32) ≤ X.1 7 p.toNatClampNeg 1 ∧ X.1 7 p.toNatClampNeg 1 ≤ (5 : Int32) := hX.at1 7 p.toNatClampNeg 1
    by_cases c : q < 0 ∨ X.1 7 p.toNatClampNeg 1 ≤ q
    · have e1 : f_L_fix X O p q = some (X, O, 1) := by
        unfold f_L_fix f_X6_fix
        rw [kataAt_in hX a]
        rw [e0_inl, testAt_no c]
        rfl
      have e2 : f_X7_fix M p q = some (u1 M 26 0 9 1, 0) := by
        unfold f_X7_fix
        rw [isTest_no hM (Or.inr (by rw [← c6p]; exact c))]
        rfl
      exact ⟨_, _, _, _, _, e1, e2, rel_fail hR 1 (by decide), up_s⟩
    · have hk7 : p.toNatClampNeg < 8 := cl_lt (vp_of (by decide) (by grind) (show p < (8 : Int32) by grind))
      have hq4 : q.toNatClampNeg < 5 := cl_lt (vp_of (by decide) (by grind) (show q < (5 : Int32) by grind))
      have hpu := pu_eq hM (k := p.toNatClampNeg) (q := q.toNatClampNeg) (by omega) (by omega)
      rw [cl_nI (by grind), cl_nI (show (0 : Int32) ≤ q by grind)] at hpu
      obtain ⟨⟨X12, v11⟩, es, hs, hst⟩ := ok_and (w_X6_setTest _ hX p ⟨by grind, by grind⟩ (5 * p.toNatClampNeg + q.toNatClampNeg)) (st_eq hX p ⟨by grind, by grind⟩ (i2 := 5 * p.toNatClampNeg + q.toNatClampNeg) (by omega))
      obtain ⟨⟨M11, v10⟩, em, hm, hmt⟩ := ok_and (w_X7_puts _ hM p ⟨by grind, by grind⟩ q ⟨by grind, by grind⟩) hpu
      have e1 : f_L_fix X O p q = some (X12, u2 O 56 0 0 v11.toInt64, 0) := by
        unfold f_L_fix f_X6_fix
        rw [kataAt_in hX a]
        rw [e0_inl, testAt_in hX c]
        rw [e0_inl, es]
        rfl
      have e2 : f_X7_fix M p q = some (u1 M11 26 0 9 0, v10) := by
        unfold f_X7_fix
        rw [isTest_in hM (by rw [← c4]; exact a) (by rw [← c6p]; exact c)]
        rw [b0_some, if_neg (by decide), em]
        rfl
      have hm9v : IV TT M11 (u1 M11 26 0 9 0) := IV.w1 hm.1.oks rfl trivial (by decide)
      have hm9 : OKS (u1 M11 26 0 9 0) := hm9v.oks
      refine ⟨_, _, _, _, _, e1, e2, ⟨hs.1.oks, hm9, ⟨?_, ?_, ?_, ?_, ?_, fun i => ?_⟩, ?_⟩, up_s⟩
      · rw [hs.1.same (by simp), up_p (by decide), hm.1.same (by simp), c1]
      · rw [up_p (by decide)]
        exact hs.2.1.trans hm.2.1.symm
      · rw [up_p (by decide)]
        exact hs.2.2.trans hm.2.2.symm
      · rw [hs.1.same (by simp), up_p (by decide), hm.1.same (by simp), c4]
      · rw [hs.1.same (by simp), up_p (by decide), hm.1.same (by simp), c5]
      · rw [hs.1.same (by simp), up_k (by decide), hm.1.same (by simp), c6]
      · refine ⟨hC.1.k (hs.1.same (by simp)) (fun _ => hs.1.same (by simp)) (fun _ => hs.1.same (by simp)) (fun _ _ => by rw [up_k (by decide), hm.1.same (by simp)]) (fun _ _ => by rw [up_k (by decide), hm.1.same (by simp)]), ⟨fun j hj => ?_, fun j hj => ?_⟩, ?_, hC.2.2.2.1.k (hs.1.same (by simp)) (fun _ => hs.1.same2 (by simp)) (by rw [up_p (by decide), hm.1.same (by simp)]) (fun _ => hm.1.same2 (by simp)), hC.2.2.2.2.k (hs.1.same (by simp)) (hs.1.same (by simp)) (hs.1.same (by simp)) (hs.1.same (by simp)) (fun _ => hs.1.same (by simp)) (by rw [up_p (by decide), hm.1.same (by simp)]) (by rw [up_p (by decide), hm.1.same (by simp)]) (by rw [up_p (by decide), hm.1.same (by simp)]) (by rw [up_p (by decide), hm.1.same (by simp)]) (fun _ => by rw [up_k (by decide), hm.1.same (by simp)])⟩
        · rw [show X12.1 4 40 2 = (0 : Int32) from hs.2.1] at hj
          exact absurd hj (Nat.not_lt_zero _)
        · rw [show X12.1 4 40 3 = (0 : Int32) from hs.2.2] at hj
          exact absurd hj (Nat.not_lt_zero _)
        · skip
          have hmt2 : PTP M (5 * p.toNatClampNeg + q.toNatClampNeg) (u1 M11 26 0 9 0) := by
            obtain ⟨n1, n2, n3, n4, n5, n6, n7⟩ := hmt
            exact ⟨n1, n2, n3, n4, n5, n6, n7⟩
          exact CT3_set hX (show 5 * p.toNatClampNeg + q.toNatClampNeg < 40 by omega) hC.2.2.1 hC.2.1 c2 c3 hst hmt2 (fun _ _ _ _ => rfl) (fun _ _ _ => rfl)
