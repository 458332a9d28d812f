theorem up_fin (M H L T s c L' h l : Nat) (hT : H * M + L = T) (h1 : 2 * L + s = c * M + L') (hB : 2 * T + s < M * M) (h2 : h = (2 * H + c) % M) (h3 : l = L') : h * M + l = 2 * T + s := by
  have e : (2 * H + c) * M = 2 * (H * M) + c * M := by rw [Nat.add_mul, Nat.mul_assoc]
  have e2 : (2 * H + c) * M + L' = 2 * T + s := by
    rw [e]
    generalize H * M = P at *
    generalize c * M = C at *
    omega
  have e3 : 2 * H + c < M := Nat.lt_of_mul_lt_mul_right (Nat.lt_of_le_of_lt (Nat.le.intro e2) hB)
  rw [h2, h3, Nat.mod_eq_of_lt e3, e2]
theorem up_st (a b : Int64) {n : Nat} (hn : n < 64) (q : Int64 × Int64) (T : Nat) (hT : uN q.1 * 18446744073709551616 + uN q.2 = T) (hB : 2 * T + (uN b / 2 ^ n % 2) * uN a < 18446744073709551616 * 18446744073709551616) : uN (st_X4_upper a b (nI n) q).1 * 18446744073709551616 + uN (st_X4_upper a b (nI n) q).2 = 2 * T + (uN b / 2 ^ n % 2) * uN a := by
  have ha := uN_lt a
  have h2 := uN_lt q.2
  have hd0 := uN_le0 q.2
  unfold st_X4_upper
  rw [lbit b hn]
  have m2 : ∀ z : Int64, uN ((2 : Int64) * z) = 2 * uN z % 18446744073709551616 := fun z => by rw [uN_mul, k2_]
  clear hn
  generalize uN b / 2 ^ n = m at *
  rcases Nat.mod_two_eq_zero_or_one m with e | e
  · rw [e] at hB ⊢
    rw [Nat.zero_mul] at hB ⊢
    have n1 : ¬ lN 0 = (1 : Int64) := by decide
    by_cases c0 : (0 : Int64) ≤ q.2
    · have d0 := hd0.mp c0
      rw [if_pos c0, if_neg n1]
      refine up_fin _ _ _ T 0 0 (2 * uN q.2) _ _ hT (by omega) hB ?_ ?_
      · show uN (((2 : Int64) * q.1) + (0 : Int64)) = _
        rw [uN_add, m2, k0_, Nat.add_zero, Nat.mod_mod, Nat.add_zero]
      · show uN ((2 : Int64) * q.2) = _
        rw [m2]; exact Nat.mod_eq_of_lt (by omega)
    · have d0 := mt hd0.mpr c0
      rw [if_neg c0, if_neg n1]
      refine up_fin _ _ _ T 0 1 (2 * uN q.2 - 18446744073709551616) _ _ hT (by omega) hB ?_ ?_
      · show uN (((2 : Int64) * q.1) + (1 : Int64)) = _
        rw [uN_add, m2, k1_, Nat.mod_add_mod]
      · show uN ((2 : Int64) * q.2) = _
        rw [m2]; omega
  · rw [e] at hB ⊢
    rw [Nat.one_mul] at hB ⊢
    have n1 : lN 1 = (1 : Int64) := by decide
    have hl := less0 (((2 : Int64) * q.2) + a) ((2 : Int64) * q.2)
    rw [uN_add, m2] at hl
    by_cases c0 : (0 : Int64) ≤ q.2
    · have d0 := hd0.mp c0
      rw [if_pos c0, if_pos n1]
      by_cases c1 : (f_X4_isLess (((2 : Int64) * q.2) + a) ((2 : Int64) * q.2)) = 0
      · have d1 := hl.mp c1
        rw [if_pos c1]
        refine up_fin _ _ _ T (uN a) 0 (2 * uN q.2 + uN a) _ _ hT (by omega) hB ?_ ?_
        · show uN (((2 : Int64) * q.1) + (0 : Int64)) = _
          rw [uN_add, m2, k0_, Nat.add_zero, Nat.mod_mod, Nat.add_zero]
        · show uN (((2 : Int64) * q.2) + a) = _
          rw [uN_add, m2]; omega
      · have d1 := mt hl.mpr c1
        rw [if_neg c1]
        refine up_fin _ _ _ T (uN a) 1 (2 * uN q.2 + uN a - 18446744073709551616) _ _ hT (by omega) hB ?_ ?_
        · show uN ((((2 : Int64) * q.1) + (0 : Int64)) + (1 : Int64)) = _
          rw [uN_add, uN_add, m2, k0_, k1_]; clear hB hT; generalize uN q.1 = qh; omega
        · show uN (((2 : Int64) * q.2) + a) = _
          rw [uN_add, m2]; omega
    · have d0 := mt hd0.mpr c0
      rw [if_neg c0, if_pos n1]
      by_cases c1 : (f_X4_isLess (((2 : Int64) * q.2) + a) ((2 : Int64) * q.2)) = 0
      · have d1 := hl.mp c1
        rw [if_pos c1]
        refine up_fin _ _ _ T (uN a) 1 (2 * uN q.2 - 18446744073709551616 + uN a) _ _ hT (by omega) hB ?_ ?_
        · show uN (((2 : Int64) * q.1) + (1 : Int64)) = _
          rw [uN_add, m2, k1_, Nat.mod_add_mod]
        · show uN (((2 : Int64) * q.2) + a) = _
          rw [uN_add, m2]; omega
      · have d1 := mt hl.mpr c1
        rw [if_neg c1]
        refine up_fin _ _ _ T (uN a) 2 (2 * uN q.2 - 18446744073709551616 + uN a - 18446744073709551616) _ _ hT (by omega) hB ?_ ?_
        · show uN ((((2 : Int64) * q.1) + (1 : Int64)) + (1 : Int64)) = _
          rw [uN_add, uN_add, m2, k1_]; clear hB hT; generalize uN q.1 = qh; omega
        · show uN (((2 : Int64) * q.2) + a) = _
          rw [uN_add, m2]; omega
theorem up_it (a b : Int64) : ∀ n : Nat, n ≤ 64 → ∀ (k : Int32) (q : Int64 × Int64), k = nI (0 + n) + (-1) → uN q.1 * 18446744073709551616 + uN q.2 = uN a * (uN b / 2 ^ n) → uN (it_X4_upper a b n k q).1 * 18446744073709551616 + uN (it_X4_upper a b n k q).2 = uN a * uN b := by
  intro n
  induction n with
  | zero =>
    intro _ k q _ hq
    rw [Nat.pow_zero, Nat.div_one] at hq
    exact hq
  | succ n ih =>
    intro hn k q hk hq
    have hk2 : k = nI n := by rw [hk, show 0 + (n + 1) = n + 1 by omega]; exact pk_m1 n
    show uN (it_X4_upper a b n (k + (-1 : Int32)) (st_X4_upper a b k q)).1 * 18446744073709551616 + uN (it_X4_upper a b n (k + (-1 : Int32)) (st_X4_upper a b k q)).2 = _
    have e1 : uN b / 2 ^ (n + 1) = uN b / 2 ^ n / 2 := by rw [Nat.pow_succ, Nat.div_div_eq_div_mul]
    have hm : uN b / 2 ^ n < 18446744073709551616 := Nat.lt_of_le_of_lt (Nat.div_le_self _ _) (uN_lt b)
    have e2 : 2 * (uN a * (uN b / 2 ^ n / 2)) + (uN b / 2 ^ n % 2) * uN a = uN a * (uN b / 2 ^ n) := by
      have := Nat.div_add_mod (uN b / 2 ^ n) 2
      calc 2 * (uN a * (uN b / 2 ^ n / 2)) + (uN b / 2 ^ n % 2) * uN a = uN a * (2 * (uN b / 2 ^ n / 2)) + uN a * (uN b / 2 ^ n % 2) := by rw [Nat.mul_left_comm, Nat.mul_comm (uN b / 2 ^ n % 2)]
        _ = uN a * (2 * (uN b / 2 ^ n / 2) + uN b / 2 ^ n % 2) := by rw [Nat.mul_add]
        _ = _ := by rw [this]
    rw [e1] at hq
    have hs := up_st a b (show n < 64 by omega) q _ hq (by rw [e2]; exact Nat.mul_lt_mul'' (uN_lt a) hm)
    rw [e2] at hs
    rw [hk2]
    exact ih (by omega) _ _ (by rw [Nat.zero_add]) hs
theorem upS (a b : Int64) : uN (f_X4_upper a b) = uN a * uN b / 18446744073709551616 := by
  unfold f_X4_upper
  rw [gs_X4_upper]
  have e : uN b / 2 ^ 64 = 0 := Nat.div_eq_of_lt (uN_lt b)
  have h := up_it a b 64 (by decide) 63 ((0 : Int64), (0 : Int64)) (by decide) (by rw [e, Nat.mul_zero]; decide)
  have h2 := uN_lt (it_X4_upper a b 64 63 ((0 : Int64), (0 : Int64))).2
  rw [← h]
  generalize uN (it_X4_upper a b 64 63 ((0 : Int64), (0 : Int64))).1 = H at *
  generalize uN (it_X4_upper a b 64 63 ((0 : Int64), (0 : Int64))).2 = L at *
  omega
theorem tm_ (a b : Int64) (h1 : -9223372036854775808 ≤ a.toInt * b.toInt) (h2 : a.toInt * b.toInt < 9223372036854775808) : (a * b).toInt = a.toInt * b.toInt := by
  rw [Int64.toInt_mul]
  exact Int.bmod_eq_of_le (by omega) (by omega)
theorem ta_ (a b : Int64) (h1 : -9223372036854775808 ≤ a.toInt + b.toInt) (h2 : a.toInt + b.toInt < 9223372036854775808) : (a + b).toInt = a.toInt + b.toInt := by
  rw [Int64.toInt_add]
  exact Int.bmod_eq_of_le (by omega) (by omega)
theorem mul_bnd {x y X Z Y : Int} (h1 : -X ≤ x) (h2 : x ≤ Z) (hX : 0 ≤ X) (hZ : 0 ≤ Z) (h3 : 0 ≤ y) (h4 : y ≤ Y) : -(X * Y) ≤ x * y ∧ x * y ≤ Z * Y := by
  have a1 : x * y ≤ Z * y := Int.mul_le_mul_of_nonneg_right h2 h3
  have a2 : Z * y ≤ Z * Y := Int.mul_le_mul_of_nonneg_left h4 hZ
  have a2' : X * y ≤ X * Y := Int.mul_le_mul_of_nonneg_left h4 hX
  have a3 : -X * y ≤ x * y := Int.mul_le_mul_of_nonneg_right h1 h3
  have a4 : -X * y = -(X * y) := Int.neg_mul X y
  omega
/-- the JDK's upper half of the product with signs -/
theorem mhi (x y : Int64) : (f_J2_multiplyHigh x y).toInt = x.toInt * y.toInt / 18446744073709551616 := by
  have hx := uN_lt x
  have hy := uN_lt y
  unfold f_J2_multiplyHigh
  have x1 : (j_lshr x (32 : Int32)).toInt = x.toInt / 4294967296 := ti_jlshr x (n := 32) (by decide)
  have y1 : (j_lshr y (32 : Int32)).toInt = y.toInt / 4294967296 := ti_jlshr y (n := 32) (by decide)
  have lo : ∀ z : Int64, (z &&& (4294967295 : Int64)).toInt = z.toInt % 4294967296 := by
    intro z
    have hz := uN_lt z
    rw [uN_int, uN_int z, uN_lo]
    split <;> split <;> omega
  have x2 := lo x
  have y2 := lo y
  have bx : -9223372036854775808 ≤ x.toInt ∧ x.toInt < 9223372036854775808 := by rw [uN_int x]; split <;> omega
  have bY : -9223372036854775808 ≤ y.toInt ∧ y.toInt < 9223372036854775808 := by rw [uN_int y]; split <;> omega
  have n2 : uN ((x &&& (4294967295 : Int64)) * (y &&& (4294967295 : Int64))) = (uN x % 4294967296) * (uN y % 4294967296) := by
    rw [uN_mul, uN_lo, uN_lo]
    apply Nat.mod_eq_of_lt
    have : (uN x % 4294967296) * (uN y % 4294967296) ≤ 4294967295 * 4294967295 := Nat.mul_le_mul (by omega) (by omega)
    omega
  have ex : ((uN x % 4294967296 : Nat) : Int) = x.toInt % 4294967296 := by rw [uN_int x]; split <;> omega
  have ey : ((uN y % 4294967296 : Nat) : Int) = y.toInt % 4294967296 := by rw [uN_int y]; split <;> omega
  have z2 : (j_lushr ((x &&& (4294967295 : Int64)) * (y &&& (4294967295 : Int64))) (32 : Int32)).toInt = (x.toInt % 4294967296) * (y.toInt % 4294967296) / 4294967296 := by
    have h := uN_jlushr ((x &&& (4294967295 : Int64)) * (y &&& (4294967295 : Int64))) (n := 32) (by decide)
    rw [n2] at h
    rw [uN_int, show (32 : Int32) = nI 32 from rfl, h, ← ex, ← ey]
    have : (uN x % 4294967296) * (uN y % 4294967296) ≤ 4294967295 * 4294967295 := Nat.mul_le_mul (by omega) (by omega)
    rw [← Int.natCast_mul]
    generalize (uN x % 4294967296) * (uN y % 4294967296) = R at *
    split <;> omega
  generalize j_lushr ((x &&& (4294967295 : Int64)) * (y &&& (4294967295 : Int64))) (32 : Int32) = z at *
  have hX : x.toInt = x.toInt / 4294967296 * 4294967296 + x.toInt % 4294967296 := by omega
  have hY : y.toInt = y.toInt / 4294967296 * 4294967296 + y.toInt % 4294967296 := by omega
  have bx1 : -2147483648 ≤ x.toInt / 4294967296 ∧ x.toInt / 4294967296 ≤ 2147483647 := by omega
  have by1 : -2147483648 ≤ y.toInt / 4294967296 ∧ y.toInt / 4294967296 ≤ 2147483647 := by omega
  have bx2 : 0 ≤ x.toInt % 4294967296 ∧ x.toInt % 4294967296 ≤ 4294967295 := by omega
  have by2 : 0 ≤ y.toInt % 4294967296 ∧ y.toInt % 4294967296 ≤ 4294967295 := by omega
  have prod : x.toInt * y.toInt = (x.toInt / 4294967296) * (y.toInt / 4294967296) * 18446744073709551616 + ((x.toInt / 4294967296) * (y.toInt % 4294967296) + (x.toInt % 4294967296) * (y.toInt / 4294967296)) * 4294967296 + (x.toInt % 4294967296) * (y.toInt % 4294967296) := by
    conv => lhs; rw [hX, hY]
    generalize x.toInt / 4294967296 = a
    generalize y.toInt / 4294967296 = b
    generalize x.toInt % 4294967296 = c
    generalize y.toInt % 4294967296 = d
    grind
  rw [prod]
  generalize x.toInt / 4294967296 = a at *
  generalize y.toInt / 4294967296 = b at *
  generalize x.toInt % 4294967296 = c at *
  generalize y.toInt % 4294967296 = d at *
  have p1 := mul_bnd (x := a) (y := d) (X := 2147483648) (Z := 2147483647) (Y := 4294967295) (by omega) (by omega) (by omega) (by omega) (by omega) (by omega)
  have p2 := mul_bnd (x := b) (y := c) (X := 2147483648) (Z := 2147483647) (Y := 4294967295) (by omega) (by omega) (by omega) (by omega) (by omega) (by omega)
  have p3 := mul_bnd (x := c) (y := d) (X := 0) (Z := 4294967295) (Y := 4294967295) (by omega) (by omega) (by omega) (by omega) (by omega) (by omega)
  have p4 : -4611686018427387904 ≤ a * b ∧ a * b ≤ 4611686018427387904 := by
    rcases Int.le_total 0 b with hb | hb
    · have := mul_bnd (x := a) (y := b) (X := 2147483648) (Z := 2147483647) (Y := 2147483648) (by omega) (by omega) (by omega) (by omega) hb (by omega)
      omega
    · have := mul_bnd (x := a) (y := -b) (X := 2147483648) (Z := 2147483647) (Y := 2147483648) (by omega) (by omega) (by omega) (by omega) (by omega) (by omega)
      rw [Int.mul_neg] at this
      omega
  have p5 : 0 ≤ c * d := Int.mul_nonneg bx2.1 by2.1
  have m1 : ((j_lshr x (32 : Int32)) * (y &&& (4294967295 : Int64))).toInt = a * d := by rw [tm_ _ _ (by rw [x1, y2]; omega) (by rw [x1, y2]; omega), x1, y2]
  have m2 : ((x &&& (4294967295 : Int64)) * (j_lshr y (32 : Int32))).toInt = c * b := by
    have : c * b = b * c := Int.mul_comm c b
    rw [tm_ _ _ (by rw [x2, y1]; omega) (by rw [x2, y1]; omega), x2, y1]
  have m3 : ((j_lshr x (32 : Int32)) * (j_lshr y (32 : Int32))).toInt = a * b := by rw [tm_ _ _ (by rw [x1, y1]; omega) (by rw [x1, y1]; omega), x1, y1]
  have t1 : (((j_lshr x (32 : Int32)) * (y &&& (4294967295 : Int64))) + z).toInt = a * d + c * d / 4294967296 := by rw [ta_ _ _ (by rw [m1, z2]; omega) (by rw [m1, z2]; omega), m1, z2]
  generalize ((j_lshr x (32 : Int32)) * (y &&& (4294967295 : Int64))) + z = t at *
  have t2 : (j_lshr t (32 : Int32)).toInt = t.toInt / 4294967296 := ti_jlshr t (n := 32) (by decide)
  have t3 := lo t
  have cb' : c * b = b * c := Int.mul_comm c b
  have w1 : ((t &&& (4294967295 : Int64)) + ((x &&& (4294967295 : Int64)) * (j_lshr y (32 : Int32)))).toInt = t.toInt % 4294967296 + c * b := by rw [ta_ _ _ (by rw [t3, m2]; omega) (by rw [t3, m2]; omega), t3, m2]
  have w2 : (j_lshr ((t &&& (4294967295 : Int64)) + ((x &&& (4294967295 : Int64)) * (j_lshr y (32 : Int32)))) (32 : Int32)).toInt = (t.toInt % 4294967296 + c * b) / 4294967296 := by
    have := ti_jlshr ((t &&& (4294967295 : Int64)) + ((x &&& (4294967295 : Int64)) * (j_lshr y (32 : Int32)))) (n := 32) (by decide)
    rw [w1] at this
    exact this
  have w3 : (((j_lshr x (32 : Int32)) * (j_lshr y (32 : Int32))) + (j_lshr t (32 : Int32))).toInt = a * b + t.toInt / 4294967296 := by rw [ta_ _ _ (by rw [m3, t2]; omega) (by rw [m3, t2]; omega), m3, t2]
  rw [ta_ _ _ (by rw [w3, w2]; omega) (by rw [w3, w2]; omega), w3, w2, t1]
  generalize a * b = ab at *
  generalize a * d = ad at *
  generalize c * b = cb at *
  generalize c * d = cd at *
  omega
