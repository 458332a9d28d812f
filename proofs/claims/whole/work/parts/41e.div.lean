theorem lbit (w : Int64) {j : Nat} (hj : j < 64) : (j_lshr w (nI j)) &&& (1 : Int64) = lN (uN w / 2 ^ j % 2) := by
  apply uN_inj
  rw [uN_and _ 1 (by decide), uN_lN (by omega)]
  show (w.toBitVec.sshiftRight (((nI j).toInt64 &&& 63).toBitVec.smod 64).toNat).toNat % 2 ^ 1 = w.toBitVec.toNat / 2 ^ j % 2
  rw [sh_l j hj]
  have h3 : (w.toBitVec.sshiftRight j).toNat % 2 = ((w.toBitVec.sshiftRight j).getLsbD 0).toNat := by
    rw [BitVec.getLsbD, Nat.testBit_zero]
    rcases Nat.mod_two_eq_zero_or_one (w.toBitVec.sshiftRight j).toNat with h | h <;> simp [h]
  rw [show (2 : Nat) ^ 1 = 2 from rfl, h3, BitVec.getLsbD_sshiftRight]
  simp [hj, BitVec.getLsbD, Nat.testBit_eq_decide_div_mod_eq]
  rcases Nat.mod_two_eq_zero_or_one (w.toBitVec.toNat / 2 ^ j) with h | h <;> simp [h]
theorem k2_ : uN (2 : Int64) = 2 := by decide
theorem k1_ : uN (1 : Int64) = 1 := by decide
theorem k0_ : uN (0 : Int64) = 0 := by decide
theorem less0 (x y : Int64) : (f_X4_isLess x y = 0) ↔ uN y ≤ uN x := by
  rw [lessM]
  by_cases c : uN x < uN y
  · rw [if_pos c]; constructor
    · intro h; exact absurd h (by decide)
    · intro h; omega
  · rw [if_neg c]; constructor
    · intro _; omega
    · intro _; rfl
def sd (a b : Int64) (k : Int32) (q r : Int64) : Int64 × Int64 :=
  if (0 : Int64) ≤ r then
    if (f_X4_isLess (((2 : Int64) * r) + ((j_lshr a k) &&& (1 : Int64))) b) = 0 then ((((2 : Int64) * q) + (1 : Int64)), ((((2 : Int64) * r) + ((j_lshr a k) &&& (1 : Int64))) - b))
    else (((2 : Int64) * q), (((2 : Int64) * r) + ((j_lshr a k) &&& (1 : Int64))))
  else ((((2 : Int64) * q) + (1 : Int64)), ((((2 : Int64) * r) + ((j_lshr a k) &&& (1 : Int64))) - b))
theorem sd_st (u : SmT) (a b : Int64) (k : Int32) (q r : Int64) : st_X4_divide a b k (sm12 (sm11 u q) r) = sm12 (sm11 u (sd a b k q r).1) (sd a b k q r).2 := by
  unfold st_X4_divide sd
  show (if (0 : Int64) ≤ r then
    if (f_X4_isLess (((2 : Int64) * r) + ((j_lshr a k) &&& (1 : Int64))) b) = 0 then (sm12 (sm11 u (((2 : Int64) * q) + (1 : Int64))) ((((2 : Int64) * r) + ((j_lshr a k) &&& (1 : Int64))) - b))
    else (sm12 (sm11 u ((2 : Int64) * q)) (((2 : Int64) * r) + ((j_lshr a k) &&& (1 : Int64))))
  else (sm12 (sm11 u (((2 : Int64) * q) + (1 : Int64))) ((((2 : Int64) * r) + ((j_lshr a k) &&& (1 : Int64))) - b))) = _
  by_cases c0 : (0 : Int64) ≤ r
  · rw [if_pos c0, if_pos c0]
    by_cases c1 : (f_X4_isLess (((2 : Int64) * r) + ((j_lshr a k) &&& (1 : Int64))) b) = 0
    · rw [if_pos c1, if_pos c1]
    · rw [if_neg c1, if_neg c1]
  · rw [if_neg c0, if_neg c0]
theorem sd_spec (a b : Int64) {n : Nat} (hn : n < 64) (q r : Int64) (hb : 0 < uN b) (hq : uN q = uN a / 2 ^ (n + 1) / uN b) (hr : uN r = uN a / 2 ^ (n + 1) % uN b) : uN (sd a b (nI n) q r).1 = uN a / 2 ^ n / uN b ∧ uN (sd a b (nI n) q r).2 = uN a / 2 ^ n % uN b := by
  have hA : uN a / 2 ^ n < 18446744073709551616 := Nat.lt_of_le_of_lt (Nat.div_le_self _ _) (uN_lt a)
  have e1 : uN a / 2 ^ (n + 1) = uN a / 2 ^ n / 2 := by rw [Nat.pow_succ, Nat.div_div_eq_div_mul]
  rw [e1] at hq hr
  have hB := uN_lt b
  have hrB : uN r < uN b := by rw [hr]; exact Nat.mod_lt _ hb
  have hdm := Nat.div_add_mod (uN a / 2 ^ n / 2) (uN b)
  rw [← hq, ← hr] at hdm
  have hQ : uN q ≤ uN b * uN q := Nat.le_mul_of_pos_left _ hb
  unfold sd
  rw [lbit a hn]
  have hbit : uN a / 2 ^ n % 2 = 0 ∨ uN a / 2 ^ n % 2 = 1 := by omega
  have e2 : ∀ c : Nat, uN b * (2 * uN q + c) = 2 * (uN b * uN q) + uN b * c := by intro c; rw [Nat.mul_add, Nat.mul_left_comm]
  have key : ∀ (q' r' : Nat), r' + uN b * q' = uN a / 2 ^ n → r' < uN b → uN a / 2 ^ n / uN b = q' ∧ uN a / 2 ^ n % uN b = r' := fun q' r' h1 h2 => (Nat.div_mod_unique hb).mpr ⟨h1, h2⟩
  have s2 : uN (((2 : Int64) * r) + lN (uN a / 2 ^ n % 2)) = (2 * uN r + uN a / 2 ^ n % 2) % 18446744073709551616 := by
    rw [uN_add, uN_mul, k2_, uN_lN (by omega)]; omega
  have k1' := e2 1
  have k0' := e2 0
  generalize uN a / 2 ^ n = m at *
  generalize uN b * uN q = Bq at *
  have hd0 := uN_le0 r
  by_cases c0 : (0 : Int64) ≤ r
  · have d0 := hd0.mp c0
    rw [if_pos c0]
    by_cases c1 : (f_X4_isLess (((2 : Int64) * r) + lN (m % 2)) b) = 0
    · have d1 := (less0 _ _).mp c1
      rw [s2] at d1
      rw [if_pos c1]
      obtain ⟨g1, g2⟩ := key (2 * uN q + 1) (2 * uN r + m % 2 - uN b) (by omega) (by omega)
      rw [g1, g2]
      constructor
      · show uN (((2 : Int64) * q) + (1 : Int64)) = _
        rw [uN_add, uN_mul, k2_, k1_]; omega
      · show uN ((((2 : Int64) * r) + lN (m % 2)) - b) = _
        rw [uN_sub, s2]; omega
    · have d1 := mt (less0 _ _).mpr c1
      rw [s2] at d1
      rw [if_neg c1]
      obtain ⟨g1, g2⟩ := key (2 * uN q + 0) (2 * uN r + m % 2) (by omega) (by omega)
      rw [g1, g2]
      constructor
      · show uN ((2 : Int64) * q) = _
        rw [uN_mul, k2_]; omega
      · show uN (((2 : Int64) * r) + lN (m % 2)) = _
        rw [s2]; omega
  · have d0 := mt hd0.mpr c0
    rw [if_neg c0]
    obtain ⟨g1, g2⟩ := key (2 * uN q + 1) (2 * uN r + m % 2 - uN b) (by omega) (by omega)
    rw [g1, g2]
    constructor
    · show uN (((2 : Int64) * q) + (1 : Int64)) = _
      rw [uN_add, uN_mul, k2_, k1_]; omega
    · show uN ((((2 : Int64) * r) + lN (m % 2)) - b) = _
      rw [uN_sub, s2]; omega
theorem dv_it (u : SmT) (a b : Int64) (hb : 0 < uN b) : ∀ n : Nat, n ≤ 64 → ∀ (k : Int32) (q r : Int64), k = nI (0 + n) + (-1) → uN q = uN a / 2 ^ n / uN b → uN r = uN a / 2 ^ n % uN b → it_X4_divide a b n k (sm12 (sm11 u q) r) = sm12 (sm11 u (lN (uN a / uN b))) (lN (uN a % uN b)) := by
  intro n
  induction n with
  | zero =>
    intro _ k q r _ hq hr
    show sm12 (sm11 u q) r = _
    rw [Nat.pow_zero, Nat.div_one] at hq hr
    rw [← hq, ← hr, lN_uN, lN_uN]
  | succ n ih =>
    intro hn k q r hk hq hr
    have hk2 : k = nI n := by rw [hk, show 0 + (n + 1) = n + 1 by omega]; exact pk_m1 n
    show it_X4_divide a b n (k + (-1 : Int32)) (st_X4_divide a b k (sm12 (sm11 u q) r)) = _
    obtain ⟨h1, h2⟩ := sd_spec a b (show n < 64 by omega) q r hb hq hr
    rw [sd_st, hk2]
    exact ih (by omega) _ _ _ (by rw [Nat.zero_add]) h1 h2
theorem uN_pos {b : Int64} (h : ¬ b = 0) : 0 < uN b := by
  rcases Nat.eq_zero_or_pos (uN b) with e | e
  · exact absurd (uN_inj (e.trans k0_.symm)) h
  · exact e
theorem dv (u : SmT) (a b : Int64) (hb : ¬ b = 0) : f_X4_divide u a b = sm12 (sm11 u (lN (uN a / uN b))) (lN (uN a % uN b)) := by
  unfold f_X4_divide
  rw [gs_X4_divide]
  have ha := uN_lt a
  have e : uN a / 2 ^ 64 = 0 := Nat.div_eq_of_lt ha
  exact dv_it u a b (uN_pos hb) 64 (by decide) 63 0 0 (by decide) (by rw [e, k0_, Nat.zero_div]) (by rw [e, k0_, Nat.zero_mod])
