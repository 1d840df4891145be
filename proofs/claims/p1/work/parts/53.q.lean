theorem lw_in {L : Nat} {ix : Int32} (hL : L ≤ 2048) (h0 : 0 ≤ ix) (h4 : ix.toInt + 4 ≤ L) {k : Nat} (hk : k ≤ 3) : vp_in (ix + nI k) L := by
  have h1 := Int32.le_iff_toInt_le.mp h0
  rw [toInt_z] at h1
  rw [vp_in_iff]
  have h2 : (ix + nI k).toInt = ix.toInt + k := by
    rw [Int32.toInt_add, nI_toInt (by omega)]
    apply Int.bmod_eq_of_le <;> omega
  omega
theorem lw_add {L : Nat} {ix : Int32} (hL : L ≤ 2048) (h0 : 0 ≤ ix) (h4 : ix.toInt + 4 ≤ L) : (ix + (4 : Int32)).toInt = ix.toInt + 4 := by
  have h1 := Int32.le_iff_toInt_le.mp h0
  rw [toInt_z] at h1
  have h3 : (4 : Int32).toInt = 4 := rfl
  rw [Int32.toInt_add, h3]
  apply Int.bmod_eq_of_le <;> omega
theorem lw_cmp {L : Nat} {ix : Int32} (hL : L ≤ 2048) (h : ¬ (Int32.ofNat L - (4 : Int32)) < ix) : ix.toInt + 4 ≤ L := by
  have h3 : (4 : Int32).toInt = 4 := rfl
  have h2 : (Int32.ofNat L - (4 : Int32)).toInt = (L : Int) - 4 := by
    rw [Int32.toInt_sub, h3, show (Int32.ofNat L).toInt = (L : Int) from nI_toInt (by omega)]
    apply Int.bmod_eq_of_le <;> omega
  rw [Int32.lt_iff_toInt_lt, h2] at h
  omega
