/-- an int's bits as a number -/
def uI (x : Int32) : Nat := x.toBitVec.toNat
theorem uI_lt (x : Int32) : uI x < 4294967296 := x.toBitVec.isLt
theorem uI_inj {x y : Int32} (h : uI x = uI y) : x = y := Int32.toBitVec_inj.mp (BitVec.eq_of_toNat_eq h)
theorem uI_int (x : Int32) : x.toInt = if 2 * uI x < 4294967296 then (uI x : Int) else (uI x : Int) - 4294967296 := BitVec.toInt_eq_toNat_cond _
theorem uI_nI {n : Nat} (h : n < 4294967296) : uI (nI n) = n := pk_tn h
theorem uI_shl (a s : Int32) (k : Nat) (hs : (s.toBitVec.smod 32).toNat = k) : uI (a <<< s) = uI a * 2 ^ k % 4294967296 := pk_shl a s k hs
theorem uI_shr (a s : Int32) (k : Nat) (hs : (s.toBitVec.smod 32).toNat = k) : (a >>> s).toInt = a.toInt / 2 ^ k := by
  rw [pk_shr a s k hs, Int.shiftRight_eq_div_pow]; rfl
theorem uI_or (x y : Int32) (k : Nat) (hx : uI x % 2 ^ k = 0) (hy : uI y < 2 ^ k) : uI (x ||| y) = uI x + uI y := by
  have h1 : uI (x ||| y) = uI x ||| uI y := by unfold uI; rw [Int32.toBitVec_or, BitVec.toNat_or]
  have h2 : uI x = 2 ^ k * (uI x / 2 ^ k) := by have := Nat.div_add_mod (uI x) (2 ^ k); omega
  rw [h1, h2]
  exact (Nat.two_pow_add_eq_or_of_lt hy _).symm
theorem cb (w hi lo : Int32) (l n : Nat) (hl : ((lo.toUInt32 &&& Int32.toUInt32 31).toBitVec % 32).toNat = l) (hn : (((1 : Int32) <<< ((hi - lo + (1 : Int32)) &&& 31)) - (1 : Int32)).toBitVec.toNat = 2 ^ n - 1) : f_X2_bits w hi lo = nI (uI w / 2 ^ l % 2 ^ n) := by
  unfold f_X2_bits
  rw [pk_and _ n hn]
  unfold j_iushr
  rw [pk_ushr w lo l hl]
  rfl
theorem uI_cb (w hi lo : Int32) (l n : Nat) (hl : ((lo.toUInt32 &&& Int32.toUInt32 31).toBitVec % 32).toNat = l) (hn : (((1 : Int32) <<< ((hi - lo + (1 : Int32)) &&& 31)) - (1 : Int32)).toBitVec.toNat = 2 ^ n - 1) (h : n ≤ 31) : uI (f_X2_bits w hi lo) = uI w / 2 ^ l % 2 ^ n := by
  rw [cb w hi lo l n hl hn]
  have h1 : uI w / 2 ^ l % 2 ^ n < 2 ^ n := Nat.mod_lt _ (Nat.two_pow_pos n)
  have h2 : 2 ^ n ≤ 2 ^ 31 := Nat.pow_le_pow_right (by decide) h
  exact uI_nI (by omega)
theorem cf_code (w : Int32) : f_X2_code w = nI (uI w / 2 ^ 0 % 2 ^ 7) := by unfold f_X2_code; exact cb w 6 0 0 7 (by decide) (by decide)
theorem cm_code (w : Int32) (v : SmT) (hw : v.2.2.2.2.1 = w) : f_X4_bits v 6 0 = f_X2_code w := by rw [cf_code, mb_bits v 6 0 0 7 (by decide) (by decide) (by decide), hw]; rfl
theorem cf_d (w : Int32) : f_X2_d w = nI (uI w / 2 ^ 7 % 2 ^ 5) := by unfold f_X2_d; exact cb w 11 7 7 5 (by decide) (by decide)
theorem cm_d (w : Int32) (v : SmT) (hw : v.2.2.2.2.1 = w) : f_X4_bits v 11 7 = f_X2_d w := by rw [cf_d, mb_bits v 11 7 7 5 (by decide) (by decide) (by decide), hw]; rfl
theorem cf_f (w : Int32) : f_X2_f w = nI (uI w / 2 ^ 12 % 2 ^ 3) := by unfold f_X2_f; exact cb w 14 12 12 3 (by decide) (by decide)
theorem cm_f (w : Int32) (v : SmT) (hw : v.2.2.2.2.1 = w) : f_X4_bits v 14 12 = f_X2_f w := by rw [cf_f, mb_bits v 14 12 12 3 (by decide) (by decide) (by decide), hw]; rfl
theorem cf_a (w : Int32) : f_X2_a w = nI (uI w / 2 ^ 15 % 2 ^ 5) := by unfold f_X2_a; exact cb w 19 15 15 5 (by decide) (by decide)
theorem cm_a (w : Int32) (v : SmT) (hw : v.2.2.2.2.1 = w) : f_X4_bits v 19 15 = f_X2_a w := by rw [cf_a, mb_bits v 19 15 15 5 (by decide) (by decide) (by decide), hw]; rfl
theorem cf_b (w : Int32) : f_X2_b w = nI (uI w / 2 ^ 20 % 2 ^ 5) := by unfold f_X2_b; exact cb w 24 20 20 5 (by decide) (by decide)
theorem cm_b (w : Int32) (v : SmT) (hw : v.2.2.2.2.1 = w) : f_X4_bits v 24 20 = f_X2_b w := by rw [cf_b, mb_bits v 24 20 20 5 (by decide) (by decide) (by decide), hw]; rfl
theorem cf_g (w : Int32) : f_X2_g w = nI (uI w / 2 ^ 25 % 2 ^ 7) := by unfold f_X2_g; exact cb w 31 25 25 7 (by decide) (by decide)
theorem cm_g (w : Int32) (v : SmT) (hw : v.2.2.2.2.1 = w) : f_X4_bits v 31 25 = f_X2_g w := by rw [cf_g, mb_bits v 31 25 25 7 (by decide) (by decide) (by decide), hw]; rfl
theorem cf_aboveLongShift (w : Int32) : f_X2_aboveLongShift w = nI (uI w / 2 ^ 26 % 2 ^ 6) := by unfold f_X2_aboveLongShift; exact cb w 31 26 26 6 (by decide) (by decide)
theorem cm_aboveLongShift (w : Int32) (v : SmT) (hw : v.2.2.2.2.1 = w) : f_X4_bits v 31 26 = f_X2_aboveLongShift w := by rw [cf_aboveLongShift, mb_bits v 31 26 26 6 (by decide) (by decide) (by decide), hw]; rfl
theorem cf_atomicSort (w : Int32) : f_X2_atomicSort w = nI (uI w / 2 ^ 27 % 2 ^ 5) := by unfold f_X2_atomicSort; exact cb w 31 27 27 5 (by decide) (by decide)
theorem cm_atomicSort (w : Int32) (v : SmT) (hw : v.2.2.2.2.1 = w) : f_X4_bits v 31 27 = f_X2_atomicSort w := by rw [cf_atomicSort, mb_bits v 31 27 27 5 (by decide) (by decide) (by decide), hw]; rfl
theorem cf_controlNumber (w : Int32) : f_X2_controlNumber w = nI (uI w / 2 ^ 20 % 2 ^ 12) := by unfold f_X2_controlNumber; exact cb w 31 20 20 12 (by decide) (by decide)
theorem cm_controlNumber (w : Int32) (v : SmT) (hw : v.2.2.2.2.1 = w) : f_X4_bits v 31 20 = f_X2_controlNumber w := by rw [cf_controlNumber, mb_bits v 31 20 20 12 (by decide) (by decide) (by decide), hw]; rfl
theorem ti_64 (x : Int32) : x.toInt64.toInt = x.toInt := Int32.toInt_toInt64 x
theorem uN_nI {n : Nat} (h : n < 2147483648) : uN (nI n).toInt64 = n := by rw [nI_l h]; exact uN_lN (by omega)
theorem uN_mI {a n : Nat} (h : a * n < 2147483648) : uN (nI a * nI n).toInt64 = a * n := by rw [pk_mul]; exact uN_nI h
theorem sign0 (w : Int32) : (0 : Int32) ≤ w ↔ uI w < 2147483648 := by
  have hx := uI_lt w
  rw [Int32.le_iff_toInt_le, uI_int w]
  have : (0 : Int32).toInt = 0 := by decide
  rw [this]
  split <;> omega
theorem mI_sign (v : SmT) (w : Int32) (hw : v.2.2.2.2.1 = w) (p : Int64) (P : Nat) (hp : uN (-p) = 18446744073709551616 - P) (h : 0 < P) (h2 : P < 18446744073709551616) : uN (f_X4_sign v p) = if uI w < 2147483648 then 0 else 18446744073709551616 - P := by
  unfold f_X4_sign
  rw [hw]
  by_cases c : (0 : Int32) ≤ w
  · rw [if_pos c, if_pos ((sign0 w).mp c)]; decide
  · rw [if_neg c, if_neg (mt (sign0 w).mpr c)]; exact hp
theorem mbu (v : SmT) (w : Int32) (hw : v.2.2.2.2.1 = w) (p0 p1 : Int32) (lo n : Nat) (h0 : p0 = nI (lo + n) + (-1)) (h1 : lo + n ≤ 32) (h4 : (p0.toInt - p1.toInt + 1).toNat = n) : f_X4_bits v p0 p1 = nI (uI w / 2 ^ lo % 2 ^ n) := by
  rw [mb_bits v p0 p1 lo n h0 h1 h4, hw]; rfl
theorem im_I (v : SmT) (w : Int32) (hw : v.2.2.2.2.1 = w) : f_X4_immediateI v = (f_X2_immediateI w).toInt64 := by
  apply uN_ti
  have hx := uI_lt w
  rw [ti_64]
  unfold f_X2_immediateI f_X4_immediateI
  rw [uI_shr w _ 20 (by decide), uI_int w, uN_int, uN_add, mI_sign v w hw 2048 2048 (by decide) (by decide) (by decide), mbu v w hw 30 20 20 11 (by decide) (by decide) (by decide), uN_nI (by omega)]
  by_cases c : uI w < 2147483648
  · rw [if_pos c]; split <;> split <;> omega
  · rw [if_neg c]; split <;> split <;> omega
theorem uI_sar (w s : Int32) (k : Nat) (hs : (s.toBitVec.smod 32).toNat = k) (hk : k = 12 ∨ k = 20 ∨ k = 25 ∨ k = 31) : uI (w >>> s) = if uI w < 2147483648 then uI w / 2 ^ k else 4294967296 - 2 ^ (32 - k) + uI w / 2 ^ k := by
  have h := uI_shr w s k hs
  have hx := uI_lt w
  have hy := uI_lt (w >>> s)
  rw [uI_int w, uI_int (w >>> s)] at h
  generalize uI (w >>> s) = y at *
  generalize uI w = x at *
  rcases hk with rfl | rfl | rfl | rfl
  · split <;> (split at h <;> split at h <;> omega)
  · split <;> (split at h <;> split at h <;> omega)
  · split <;> (split at h <;> split at h <;> omega)
  · split <;> (split at h <;> split at h <;> omega)
theorem im_U (v : SmT) (w : Int32) (hw : v.2.2.2.2.1 = w) : f_X4_immediateU v = (f_X2_immediateU w).toInt64 := by
  apply uN_ti
  have hx := uI_lt w
  rw [ti_64]
  unfold f_X2_immediateU f_X4_immediateU
  rw [uI_int, uI_shl _ _ 12 (by decide), uI_sar w _ 12 (by decide) (by decide), uN_int, uN_add, mI_sign v w hw 2147483648 2147483648 (by decide) (by decide) (by decide), uN_mul, mbu v w hw 30 12 12 19 (by decide) (by decide) (by decide), uN_nI (by omega), show uN (4096 : Int64) = 4096 from by decide]
  by_cases c : uI w < 2147483648
  · rw [if_pos c]; split <;> split <;> omega
  · rw [if_neg c]; split <;> split <;> omega
theorem im_S (v : SmT) (w : Int32) (hw : v.2.2.2.2.1 = w) : f_X4_immediateS v = (f_X2_immediateS w).toInt64 := by
  apply uN_ti
  have hx := uI_lt w
  rw [ti_64]
  unfold f_X2_immediateS f_X4_immediateS
  have a1 : uI ((w >>> ((25 : Int32) &&& 31)) <<< ((5 : Int32) &&& 31)) = (if uI w < 2147483648 then uI w / 2 ^ 25 else 4294967296 - 2 ^ (32 - 25) + uI w / 2 ^ 25) * 2 ^ 5 % 4294967296 := by rw [uI_shl _ _ 5 (by decide), uI_sar w _ 25 (by decide) (by decide)]
  have a2 : uI (f_X2_bits w (11 : Int32) (7 : Int32)) = uI w / 2 ^ 7 % 2 ^ 5 := uI_cb w 11 7 7 5 (by decide) (by decide) (by decide)
  rw [uI_int, uI_or _ _ 5 (by rw [a1]; split <;> omega) (by rw [a2]; omega), a1, a2, uN_int, uN_add, uN_add, mI_sign v w hw 2048 2048 (by decide) (by decide) (by decide), mbu v w hw 30 25 25 6 (by decide) (by decide) (by decide), mbu v w hw 11 7 7 5 (by decide) (by decide) (by decide), show (32 : Int32) = nI 32 from rfl, uN_mI (by omega), uN_nI (by omega)]
  clear a1 a2
  have hr : uI w / 2 ^ 7 % 2 ^ 5 < 32 := by omega
  have hq : uI w / 2 ^ 25 < 128 := by omega
  by_cases c : uI w < 2147483648
  · have hq2 : uI w / 2 ^ 25 < 64 := by omega
    rw [if_pos c, if_pos c]
    generalize uI w / 2 ^ 25 = q at *
    generalize uI w / 2 ^ 7 % 2 ^ 5 = r at *
    clear c hx
    split <;> split <;> omega
  · have hq2 : 64 ≤ uI w / 2 ^ 25 := by omega
    rw [if_neg c, if_neg c]
    generalize uI w / 2 ^ 25 = q at *
    generalize uI w / 2 ^ 7 % 2 ^ 5 = r at *
    clear c hx
    split <;> split <;> omega
theorem im_B (v : SmT) (w : Int32) (hw : v.2.2.2.2.1 = w) : f_X4_immediateB v = (f_X2_immediateB w).toInt64 := by
  apply uN_ti
  have hx := uI_lt w
  rw [ti_64]
  unfold f_X2_immediateB f_X4_immediateB
  have a1 : uI ((w >>> ((31 : Int32) &&& 31)) <<< ((12 : Int32) &&& 31)) = (if uI w < 2147483648 then uI w / 2 ^ 31 else 4294967296 - 2 ^ (32 - 31) + uI w / 2 ^ 31) * 2 ^ 12 % 4294967296 := by rw [uI_shl _ _ 12 (by decide), uI_sar w _ 31 (by decide) (by decide)]
  have a2 : uI ((f_X2_bits w (7 : Int32) (7 : Int32)) <<< ((11 : Int32) &&& 31)) = uI w / 2 ^ 7 % 2 ^ 1 * 2 ^ 11 := by rw [uI_shl _ _ 11 (by decide), uI_cb w 7 7 7 1 (by decide) (by decide) (by decide)]; omega
  have a3 : uI ((f_X2_bits w (30 : Int32) (25 : Int32)) <<< ((5 : Int32) &&& 31)) = uI w / 2 ^ 25 % 2 ^ 6 * 2 ^ 5 := by rw [uI_shl _ _ 5 (by decide), uI_cb w 30 25 25 6 (by decide) (by decide) (by decide)]; omega
  have a4 : uI ((f_X2_bits w (11 : Int32) (8 : Int32)) <<< ((1 : Int32) &&& 31)) = uI w / 2 ^ 8 % 2 ^ 4 * 2 ^ 1 := by rw [uI_shl _ _ 1 (by decide), uI_cb w 11 8 8 4 (by decide) (by decide) (by decide)]; omega
  have b2 := uI_or _ _ 12 (show uI ((w >>> ((31 : Int32) &&& 31)) <<< ((12 : Int32) &&& 31)) % 2 ^ 12 = 0 by rw [a1]; split <;> omega) (show uI ((f_X2_bits w (7 : Int32) (7 : Int32)) <<< ((11 : Int32) &&& 31)) < 2 ^ 12 by rw [a2]; omega)
  rw [a1, a2] at b2
  have b3 := uI_or (((w >>> ((31 : Int32) &&& 31)) <<< ((12 : Int32) &&& 31)) ||| ((f_X2_bits w (7 : Int32) (7 : Int32)) <<< ((11 : Int32) &&& 31))) ((f_X2_bits w (30 : Int32) (25 : Int32)) <<< ((5 : Int32) &&& 31)) 11 (by rw [b2]; split <;> omega) (by rw [a3]; omega)
  rw [b2, a3] at b3
  rw [uI_int, uI_or _ _ 5 (by rw [b3]; split <;> omega) (by rw [a4]; omega), b3, a4, uN_int, uN_add, uN_add, uN_add, mI_sign v w hw 4096 4096 (by decide) (by decide) (by decide), mbu v w hw 7 7 7 1 (by decide) (by decide) (by decide), mbu v w hw 30 25 25 6 (by decide) (by decide) (by decide), mbu v w hw 11 8 8 4 (by decide) (by decide) (by decide), show (32 : Int32) = nI 32 from rfl, show (2048 : Int32) = nI 2048 from rfl, show (2 : Int32) = nI 2 from rfl, uN_mI (by omega), uN_mI (by omega), uN_mI (by omega)]
  by_cases c : uI w < 2147483648
  · rw [if_pos c]; split <;> split <;> omega
  · rw [if_neg c]; split <;> split <;> omega
theorem im_J (v : SmT) (w : Int32) (hw : v.2.2.2.2.1 = w) : f_X4_immediateJ v = (f_X2_immediateJ w).toInt64 := by
  apply uN_ti
  have hx := uI_lt w
  rw [ti_64]
  unfold f_X2_immediateJ f_X4_immediateJ
  have a1 : uI ((w >>> ((31 : Int32) &&& 31)) <<< ((20 : Int32) &&& 31)) = (if uI w < 2147483648 then uI w / 2 ^ 31 else 4294967296 - 2 ^ (32 - 31) + uI w / 2 ^ 31) * 2 ^ 20 % 4294967296 := by rw [uI_shl _ _ 20 (by decide), uI_sar w _ 31 (by decide) (by decide)]
  have a2 : uI ((f_X2_bits w (19 : Int32) (12 : Int32)) <<< ((12 : Int32) &&& 31)) = uI w / 2 ^ 12 % 2 ^ 8 * 2 ^ 12 := by rw [uI_shl _ _ 12 (by decide), uI_cb w 19 12 12 8 (by decide) (by decide) (by decide)]; omega
  have a3 : uI ((f_X2_bits w (20 : Int32) (20 : Int32)) <<< ((11 : Int32) &&& 31)) = uI w / 2 ^ 20 % 2 ^ 1 * 2 ^ 11 := by rw [uI_shl _ _ 11 (by decide), uI_cb w 20 20 20 1 (by decide) (by decide) (by decide)]; omega
  have a4 : uI ((f_X2_bits w (30 : Int32) (21 : Int32)) <<< ((1 : Int32) &&& 31)) = uI w / 2 ^ 21 % 2 ^ 10 * 2 ^ 1 := by rw [uI_shl _ _ 1 (by decide), uI_cb w 30 21 21 10 (by decide) (by decide) (by decide)]; omega
  have b2 := uI_or _ _ 20 (show uI ((w >>> ((31 : Int32) &&& 31)) <<< ((20 : Int32) &&& 31)) % 2 ^ 20 = 0 by rw [a1]; split <;> omega) (show uI ((f_X2_bits w (19 : Int32) (12 : Int32)) <<< ((12 : Int32) &&& 31)) < 2 ^ 20 by rw [a2]; omega)
  rw [a1, a2] at b2
  have b3 := uI_or (((w >>> ((31 : Int32) &&& 31)) <<< ((20 : Int32) &&& 31)) ||| ((f_X2_bits w (19 : Int32) (12 : Int32)) <<< ((12 : Int32) &&& 31))) ((f_X2_bits w (20 : Int32) (20 : Int32)) <<< ((11 : Int32) &&& 31)) 12 (by rw [b2]; split <;> omega) (by rw [a3]; omega)
  rw [b2, a3] at b3
  rw [uI_int, uI_or _ _ 11 (by rw [b3]; split <;> omega) (by rw [a4]; omega), b3, a4, uN_int, uN_add, uN_add, uN_add, mI_sign v w hw 1048576 1048576 (by decide) (by decide) (by decide), mbu v w hw 19 12 12 8 (by decide) (by decide) (by decide), mbu v w hw 20 20 20 1 (by decide) (by decide) (by decide), mbu v w hw 30 21 21 10 (by decide) (by decide) (by decide), show (4096 : Int32) = nI 4096 from rfl, show (2048 : Int32) = nI 2048 from rfl, show (2 : Int32) = nI 2 from rfl, uN_mI (by omega), uN_mI (by omega), uN_mI (by omega)]
  by_cases c : uI w < 2147483648
  · rw [if_pos c]; split <;> split <;> omega
  · rw [if_neg c]; split <;> split <;> omega
