theorem sh_l : ∀ n, n < 64 → (((nI n).toInt64 &&& 63).toBitVec.smod 64).toNat = n := by decide +kernel
theorem sh_u : ∀ n, n < 64 → ((nI n).toInt64.toUInt64 &&& Int64.toUInt64 63).toNat % 64 = n := by decide +kernel
theorem uN_jlshl (x : Int64) {n : Nat} (hn : n < 64) : uN (j_lshl x (nI n)) = uN x * 2 ^ n % 18446744073709551616 := by
  show (x.toBitVec <<< (((nI n).toInt64 &&& 63).toBitVec.smod 64).toNat).toNat = _
  rw [sh_l n hn, BitVec.toNat_shiftLeft, Nat.shiftLeft_eq]
  rfl
theorem uN_jlushr (x : Int64) {n : Nat} (hn : n < 64) : uN (j_lushr x (nI n)) = uN x / 2 ^ n := by
  unfold j_lushr
  rw [uN_shr, sh_u n hn]
theorem ti_jlshr (x : Int64) {n : Nat} (hn : n < 64) : (j_lshr x (nI n)).toInt = x.toInt / 2 ^ n := by
  show (x.toBitVec.sshiftRight (((nI n).toInt64 &&& 63).toBitVec.smod 64).toNat).toInt = _
  rw [sh_l n hn, BitVec.toInt_sshiftRight, Int.shiftRight_eq_div_pow]
  rfl
theorem uN_and (x : Int64) {m : Int64} (k : Nat) (hm : uN m = 2 ^ k - 1) : uN (x &&& m) = uN x % 2 ^ k := by
  show (x.toUInt64 &&& m.toUInt64).toNat = _
  rw [UInt64.toNat_and, show m.toUInt64.toNat = 2 ^ k - 1 from hm]
  exact Nat.and_two_pow_sub_one_eq_mod _ k
theorem uN_ti {x y : Int64} (h : x.toInt = y.toInt) : x = y := Int64.toInt_inj.mp h
/-- a loaded number, n bytes, with sign or with zeros -/
theorem tr8 (p : Int64) (s : Int32) (hs : s = nI 56) : j_lushr (j_lshl p s) s = p &&& ((j_lshl 1 (nI 8)) - 1) := by
  rw [hs]
  apply uN_inj
  rw [uN_jlushr _ (by decide), uN_jlshl _ (by decide), uN_and p 8 (by decide)]
  omega
theorem tr16 (p : Int64) (s : Int32) (hs : s = nI 48) : j_lushr (j_lshl p s) s = p &&& ((j_lshl 1 (nI 16)) - 1) := by
  rw [hs]
  apply uN_inj
  rw [uN_jlushr _ (by decide), uN_jlshl _ (by decide), uN_and p 16 (by decide)]
  omega
theorem tr32 (p : Int64) (s : Int32) (hs : s = nI 32) : j_lushr (j_lshl p s) s = p &&& ((j_lshl 1 (nI 32)) - 1) := by
  rw [hs]
  apply uN_inj
  rw [uN_jlushr _ (by decide), uN_jlshl _ (by decide), uN_and p 32 (by decide)]
  omega
theorem ts8 (p : Int64) (s : Int32) (hs : s = nI 56) : j_lshr (j_lshl p s) s = if (p &&& ((j_lshl 1 (nI 8)) - 1)) < (j_lshl 1 (nI 8)) / 2 then (p &&& ((j_lshl 1 (nI 8)) - 1)) else (p &&& ((j_lshl 1 (nI 8)) - 1)) - (j_lshl 1 (nI 8)) := by
  rw [hs]
  have e : uN (p &&& ((j_lshl 1 (nI 8)) - 1)) = uN p % 2 ^ 8 := uN_and p 8 (by decide)
  have hp := uN_lt p
  have g : (p &&& ((j_lshl 1 (nI 8)) - 1)) < (j_lshl 1 (nI 8)) / 2 ↔ uN p % 2 ^ 8 < 128 := by
    rw [Int64.lt_iff_toInt_lt, show ((j_lshl 1 (nI 8)) / 2).toInt = 128 from by decide, uN_int, e]
    split <;> omega
  apply uN_ti
  rw [ti_jlshr _ (by decide), uN_int (j_lshl p (nI 56)), uN_jlshl _ (by decide)]
  by_cases c : uN p % 2 ^ 8 < 128
  · rw [if_pos (g.mpr c), uN_int, e]
    split <;> split <;> omega
  · rw [if_neg (mt g.mp c), uN_int, uN_sub, e, show uN (j_lshl 1 (nI 8)) = 256 from by decide]
    split <;> split <;> omega
theorem ts16 (p : Int64) (s : Int32) (hs : s = nI 48) : j_lshr (j_lshl p s) s = if (p &&& ((j_lshl 1 (nI 16)) - 1)) < (j_lshl 1 (nI 16)) / 2 then (p &&& ((j_lshl 1 (nI 16)) - 1)) else (p &&& ((j_lshl 1 (nI 16)) - 1)) - (j_lshl 1 (nI 16)) := by
  rw [hs]
  have e : uN (p &&& ((j_lshl 1 (nI 16)) - 1)) = uN p % 2 ^ 16 := uN_and p 16 (by decide)
  have hp := uN_lt p
  have g : (p &&& ((j_lshl 1 (nI 16)) - 1)) < (j_lshl 1 (nI 16)) / 2 ↔ uN p % 2 ^ 16 < 32768 := by
    rw [Int64.lt_iff_toInt_lt, show ((j_lshl 1 (nI 16)) / 2).toInt = 32768 from by decide, uN_int, e]
    split <;> omega
  apply uN_ti
  rw [ti_jlshr _ (by decide), uN_int (j_lshl p (nI 48)), uN_jlshl _ (by decide)]
  by_cases c : uN p % 2 ^ 16 < 32768
  · rw [if_pos (g.mpr c), uN_int, e]
    split <;> split <;> omega
  · rw [if_neg (mt g.mp c), uN_int, uN_sub, e, show uN (j_lshl 1 (nI 16)) = 65536 from by decide]
    split <;> split <;> omega
theorem ts32 (p : Int64) (s : Int32) (hs : s = nI 32) : j_lshr (j_lshl p s) s = if (p &&& ((j_lshl 1 (nI 32)) - 1)) < (j_lshl 1 (nI 32)) / 2 then (p &&& ((j_lshl 1 (nI 32)) - 1)) else (p &&& ((j_lshl 1 (nI 32)) - 1)) - (j_lshl 1 (nI 32)) := by
  rw [hs]
  have e : uN (p &&& ((j_lshl 1 (nI 32)) - 1)) = uN p % 2 ^ 32 := uN_and p 32 (by decide)
  have hp := uN_lt p
  have g : (p &&& ((j_lshl 1 (nI 32)) - 1)) < (j_lshl 1 (nI 32)) / 2 ↔ uN p % 2 ^ 32 < 2147483648 := by
    rw [Int64.lt_iff_toInt_lt, show ((j_lshl 1 (nI 32)) / 2).toInt = 2147483648 from by decide, uN_int, e]
    split <;> omega
  apply uN_ti
  rw [ti_jlshr _ (by decide), uN_int (j_lshl p (nI 32)), uN_jlshl _ (by decide)]
  by_cases c : uN p % 2 ^ 32 < 2147483648
  · rw [if_pos (g.mpr c), uN_int, e]
    split <;> split <;> omega
  · rw [if_neg (mt g.mp c), uN_int, uN_sub, e, show uN (j_lshl 1 (nI 32)) = 4294967296 from by decide]
    split <;> split <;> omega
