theorem mb_bit (w : Int32) (j : Nat) (hj : j < 32) : (w >>> (nI j &&& 31)) &&& 1 = nI (w.toBitVec.toNat / 2 ^ j % 2) := by
  have h1 : ∀ j : Nat, j < 32 → ((nI j &&& 31).toBitVec.smod 32).toNat = j := by decide +kernel
  rw [pk_and (w >>> (nI j &&& 31)) (m := 1) 1 (by decide)]
  congr 1
  have h2 : (w >>> (nI j &&& 31)).toBitVec = w.toBitVec.sshiftRight j := by
    rw [Int32.toBitVec_shiftRight, BitVec.sshiftRight_eq', h1 j hj]
  rw [h2]
  have h3 : (w.toBitVec.sshiftRight j).toNat % 2 = ((w.toBitVec.sshiftRight j).getLsbD 0).toNat := by
    rw [BitVec.getLsbD, Nat.testBit_zero]
    rcases Nat.mod_two_eq_zero_or_one (w.toBitVec.sshiftRight j).toNat with h | h <;> simp [h]
  rw [show (2 : Nat) ^ 1 = 2 from rfl, h3, BitVec.getLsbD_sshiftRight]
  have h4 : ¬ 32 ≤ 0 := by decide
  simp [hj, BitVec.getLsbD, Nat.testBit_eq_decide_div_mod_eq]
  rcases Nat.mod_two_eq_zero_or_one (w.toBitVec.toNat / 2 ^ j) with h | h <;> simp [h]
theorem mb_it (u : SmT) (p0 p1 : Int32) (lo : Nat) : ∀ (n : Nat), lo + n ≤ 32 → ∀ (k : Int32) (v : Nat), k = nI (lo + n) + (-1) → it_X4_bits u p0 p1 n k (nI v) = nI (v * 2 ^ n + u.2.2.2.2.1.toBitVec.toNat / 2 ^ lo % 2 ^ n) := by
  intro n
  induction n with
  | zero => intro h k v hk; show nI v = _; simp [Nat.mod_one]
  | succ n ih =>
    intro h k v hk
    have hk2 : k = nI (lo + n) := hk.trans (pk_m1 (lo + n))
    have hs : st_X4_bits u p0 p1 k (nI v) = nI (2 * v + u.2.2.2.2.1.toBitVec.toNat / 2 ^ (lo + n) % 2) := by
      unfold st_X4_bits
      rw [hk2, mb_bit _ _ (by omega), show (2 : Int32) = nI 2 from rfl, pk_mul, nI_add]
    show it_X4_bits u p0 p1 n (k + (-1 : Int32)) (st_X4_bits u p0 p1 k (nI v)) = _
    rw [hs, ih (by omega) _ _ (by rw [hk2])]
    congr 1
    have e1 : u.2.2.2.2.1.toBitVec.toNat / 2 ^ (lo + n) = u.2.2.2.2.1.toBitVec.toNat / 2 ^ lo / 2 ^ n := by rw [Nat.pow_add, Nat.div_div_eq_div_mul]
    have e2 : u.2.2.2.2.1.toBitVec.toNat / 2 ^ lo % 2 ^ (n + 1) = u.2.2.2.2.1.toBitVec.toNat / 2 ^ lo % 2 ^ n + 2 ^ n * (u.2.2.2.2.1.toBitVec.toNat / 2 ^ lo / 2 ^ n % 2) := by rw [Nat.pow_succ, Nat.mod_mul]
    rw [e1, e2, Nat.pow_succ]
    generalize u.2.2.2.2.1.toBitVec.toNat / 2 ^ lo / 2 ^ n % 2 = b
    generalize u.2.2.2.2.1.toBitVec.toNat / 2 ^ lo % 2 ^ n = r
    rw [Nat.add_mul, Nat.mul_comm b, Nat.mul_comm 2 v, Nat.mul_assoc v 2, Nat.mul_comm 2 (2 ^ n)]
    omega
/-- bits hi .. lo of the word, as a number -/
theorem mb_bits (u : SmT) (p0 p1 : Int32) (lo n : Nat) (h0 : p0 = nI (lo + n) + (-1)) (h1 : lo + n ≤ 32) (h4 : (p0.toInt - p1.toInt + 1).toNat = n) : f_X4_bits u p0 p1 = nI (u.2.2.2.2.1.toBitVec.toNat / 2 ^ lo % 2 ^ n) := by
  unfold f_X4_bits
  rw [gs_X4_bits, h4, show (0 : Int32) = nI 0 from rfl, mb_it u p0 p1 lo n h1 p0 0 h0]
  congr 1
  omega
theorem bm_in (u : SmT) (p0 p1 : Int32) (lo n N : Nat) (h0 : p0 = nI (lo + n) + (-1)) (h1 : lo + n ≤ 32) (h4 : (p0.toInt - p1.toInt + 1).toNat = n) (h5 : 2 ^ n = N) (h6 : N < 2 ^ 31) : vp_in (f_X4_bits u p0 p1) N := by
  rw [mb_bits u p0 p1 lo n h0 h1 h4]
  exact vp_in_nI (by rw [← h5]; exact Nat.mod_lt _ (Nat.two_pow_pos n)) h6
theorem bm_19_15 (u : SmT) : vp_in (f_X4_bits u 19 15) 32 := bm_in u 19 15 15 5 32 (by decide) (by decide) (by decide) (by decide) (by decide)
theorem bm_24_20 (u : SmT) : vp_in (f_X4_bits u 24 20) 32 := bm_in u 24 20 20 5 32 (by decide) (by decide) (by decide) (by decide) (by decide)
theorem bm_d (u : SmT) : f_X4_bits u 11 7 ≤ 31 := by
  rw [mb_bits u 11 7 7 5 (by decide) (by decide) (by decide)]
  exact nI_le (a := _) (b := 31) (by have := Nat.mod_lt (u.2.2.2.2.1.toBitVec.toNat / 2 ^ 7) (show 0 < 2 ^ 5 by decide); omega) (by decide)
theorem bd_regm (r : Int32) (h : ¬ f_X4_isRegister r = 0) : vp_in r 32 := by
  unfold f_X4_isRegister at h
  by_cases c1 : r < 0
  · exact absurd (by rw [if_pos c1]) h
  · by_cases c2 : (32 : Int32) ≤ r
    · exact absurd (by rw [if_neg c1, if_pos c2]) h
    · refine vp_in_iff.mpr ?_
      rw [Int32.lt_iff_toInt_lt] at c1
      rw [Int32.le_iff_toInt_le] at c2
      have h32 : (32 : Int32).toInt = 32 := by decide
      have h0 : (0 : Int32).toInt = 0 := by decide
      omega
theorem bd_rle (r : Int32) (h : ¬ f_X4_isRegister r = 0) : r ≤ 31 := by
  have h1 := vp_in_iff.mp (bd_regm r h)
  rw [Int32.le_iff_toInt_le]
  have h31 : (31 : Int32).toInt = 31 := by decide
  omega
theorem bd_put (r : Int32) (h : ¬ r ≤ 0) (hd : r ≤ 31) : vp_in r 32 := by
  refine vp_in_iff.mpr ?_
  rw [Int32.le_iff_toInt_le] at h hd
  have h31 : (31 : Int32).toInt = 31 := by decide
  have h0 : (0 : Int32).toInt = 0 := by decide
  omega
theorem bd_what (r : Int32) (h : ¬ r < 0) (hd : r ≤ 4) : vp_in r 5 := by
  refine vp_in_iff.mpr ?_
  rw [Int32.lt_iff_toInt_lt] at h
  rw [Int32.le_iff_toInt_le] at hd
  have h31 : (4 : Int32).toInt = 4 := by decide
  have h0 : (0 : Int32).toInt = 0 := by decide
  omega
