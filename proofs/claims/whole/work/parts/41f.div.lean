def qU (a b : Int64) : Int64 := if b = 0 then -1 else lN (uN a / uN b)
def rU (a b : Int64) : Int64 := if b = 0 then a else lN (uN a % uN b)
def qS (a b : Int64) : Int64 := if b = 0 then -1 else a / b
def rS (a b : Int64) : Int64 := if b = 0 then a else a - a / b * b
theorem dA_u (u : SmT) (a b : Int64) : f_X4_divideAll u a b 0 = sm12 (sm11 u (qU a b)) (rU a b) := by
  unfold f_X4_divideAll qU rU
  by_cases c : b = 0
  · rw [if_pos c, if_pos c, if_pos c]
  · rw [if_neg c, if_neg c, if_neg c, if_pos rfl, if_pos rfl, dv u a b c]
theorem msb_le (a : Int64) : a.toBitVec.msb = decide (¬ (0 : Int64) ≤ a) := by
  have h := uN_le0 a
  rw [BitVec.msb_eq_decide]
  by_cases c : (0 : Int64) ≤ a
  · have d := h.mp c
    simp only [c]
    exact decide_eq_false (by show ¬ 2 ^ 63 ≤ uN a; omega)
  · have d := mt h.mpr c
    simp only [c]
    exact decide_eq_true (by show 2 ^ 63 ≤ uN a; omega)
theorem bvU (a b : Int64) : a.toBitVec.udiv b.toBitVec = (lN (uN a / uN b)).toBitVec := by
  apply BitVec.eq_of_toNat_eq
  have h : uN a / uN b < 18446744073709551616 := Nat.lt_of_le_of_lt (Nat.div_le_self _ _) (uN_lt a)
  have e : (lN (uN a / uN b)).toBitVec.toNat = uN a / uN b := uN_lN h
  rw [e, BitVec.udiv_eq, BitVec.toNat_udiv]
  rfl
theorem sdiv_pp (a b : Int64) (ha : (0 : Int64) ≤ a) (hb : (0 : Int64) ≤ b) : a / b = lN (uN a / uN b) := by
  apply Int64.toBitVec_inj.mp
  rw [Int64.toBitVec_div, BitVec.sdiv_eq, msb_le, msb_le, ← bvU]
  simp [ha, hb]
theorem sdiv_pn (a b : Int64) (ha : (0 : Int64) ≤ a) (hb : ¬ (0 : Int64) ≤ b) : a / b = -lN (uN a / uN (-b)) := by
  apply Int64.toBitVec_inj.mp
  rw [Int64.toBitVec_div, BitVec.sdiv_eq, msb_le, msb_le, Int64.toBitVec_neg, ← bvU, Int64.toBitVec_neg]
  simp [ha, hb]
theorem sdiv_np (a b : Int64) (ha : ¬ (0 : Int64) ≤ a) (hb : (0 : Int64) ≤ b) : a / b = -lN (uN (-a) / uN b) := by
  apply Int64.toBitVec_inj.mp
  rw [Int64.toBitVec_div, BitVec.sdiv_eq, msb_le, msb_le, Int64.toBitVec_neg, ← bvU, Int64.toBitVec_neg]
  simp [ha, hb]
theorem sdiv_nn (a b : Int64) (ha : ¬ (0 : Int64) ≤ a) (hb : ¬ (0 : Int64) ≤ b) : a / b = lN (uN (-a) / uN (-b)) := by
  apply Int64.toBitVec_inj.mp
  rw [Int64.toBitVec_div, BitVec.sdiv_eq, msb_le, msb_le, ← bvU, Int64.toBitVec_neg, Int64.toBitVec_neg]
  simp [ha, hb]
theorem lN_dm (a b : Int64) : a = lN (uN a / uN b) * b + lN (uN a % uN b) := by
  apply uN_inj
  have ha := uN_lt a
  have hdm := Nat.div_add_mod (uN a) (uN b)
  have h1 : uN a / uN b ≤ uN a := Nat.div_le_self _ _
  have h2 : uN a % uN b ≤ uN a := Nat.mod_le _ _
  rw [uN_add, uN_mul, uN_lN (by omega), uN_lN (by omega), Nat.mul_comm (uN a / uN b)]
  generalize uN b * (uN a / uN b) = P at *
  omega
theorem neg_nz {b : Int64} (h : ¬ b = 0) : ¬ -b = 0 := by
  intro e
  apply h
  have := congrArg (fun x => -x) e
  simpa using this
theorem dA_s (u : SmT) (a b : Int64) : f_X4_divideAll u a b 1 = sm12 (sm11 u (qS a b)) (rS a b) := by
  unfold f_X4_divideAll qS rS
  by_cases c : b = 0
  · rw [if_pos c, if_pos c, if_pos c]
  · rw [if_neg c, if_neg c, if_neg c, if_neg (by decide)]
    by_cases ha : (0 : Int64) ≤ a
    · rw [if_pos ha]
      by_cases hb : (0 : Int64) ≤ b
      · rw [if_pos hb, if_pos rfl, dv u a b c, sdiv_pp a b ha hb]
        have e := lN_dm a b
        have e2 : a - lN (uN a / uN b) * b = lN (uN a % uN b) := by grind
        rw [e2]
      · rw [if_neg hb, if_neg (by decide), dv u a (-b) (neg_nz c), sdiv_pn a b ha hb]
        have e := lN_dm a (-b)
        have e2 : a - -lN (uN a / uN (-b)) * b = lN (uN a % uN (-b)) := by grind
        rw [e2]
    · rw [if_neg ha]
      by_cases hb : (0 : Int64) ≤ b
      · rw [if_pos hb, if_neg (by decide), dv u (-a) b c, sdiv_np a b ha hb]
        have e := lN_dm (-a) b
        have e2 : a - -lN (uN (-a) / uN b) * b = -lN (uN (-a) % uN b) := by grind
        rw [e2]
      · rw [if_neg hb, if_pos rfl, dv u (-a) (-b) (neg_nz c), sdiv_nn a b ha hb]
        have e := lN_dm (-a) (-b)
        have e2 : a - lN (uN (-a) / uN (-b)) * b = -lN (uN (-a) % uN (-b)) := by grind
        rw [e2]
theorem quot_C (x y : Int64) : f_X1_quotientUnsigned x y = qU x y := by
  unfold f_X1_quotientUnsigned qU
  by_cases c : y = 0
  · rw [if_pos c, if_pos c]
  · rw [if_neg c, if_neg c]
    have hY := uN_pos c
    have hx := uN_lt x
    have hy := uN_lt y
    by_cases h0 : (0 : Int64) ≤ y
    · have hy0 := (uN_le0 y).mp h0
      rw [if_pos h0]
      have u1 : uN (j_lushr x (1 : Int32)) = uN x / 2 := uN_jlushr x (n := 1) (by decide)
      have p1 : (0 : Int64) ≤ j_lushr x (1 : Int32) := (uN_le0 _).mpr (by omega)
      have e1 : (j_lushr x (1 : Int32)) / y = lN (uN x / 2 / uN y) := by rw [sdiv_pp _ _ p1 h0, u1]
      have hq : uN x / 2 / uN y ≤ uN x / 2 := Nat.div_le_self _ _
      have e2 : uN (j_lshl (lN (uN x / 2 / uN y)) (1 : Int32)) = 2 * (uN x / 2 / uN y) := by
        have := uN_jlshl (lN (uN x / 2 / uN y)) (n := 1) (by decide)
        rw [uN_lN (by omega)] at this
        rw [show (1 : Int32) = nI 1 from rfl, this]; omega
      rw [e1]
      generalize hE : j_lshl (lN (uN x / 2 / uN y)) (1 : Int32) = E at *
      have hdm := Nat.div_add_mod (uN x / 2) (uN y)
      have hm : uN x / 2 % uN y < uN y := Nat.mod_lt _ hY
      have e3 : ∀ k : Nat, uN y * (2 * (uN x / 2 / uN y) + k) = 2 * (uN y * (uN x / 2 / uN y)) + uN y * k := by intro k; rw [Nat.mul_add, Nat.mul_left_comm]
      have k0' := e3 0
      have k1' := e3 1
      have d1 : uN (x - E * y) = uN x - 2 * (uN y * (uN x / 2 / uN y)) := by
        have e4 : 2 * (uN x / 2 / uN y) * uN y = 2 * (uN y * (uN x / 2 / uN y)) := by rw [Nat.mul_comm _ (uN y), Nat.mul_left_comm]
        rw [uN_sub, uN_mul, e2, e4]
        generalize uN y * (uN x / 2 / uN y) = P at *
        omega
      have key : ∀ (q' r' : Nat), r' + uN y * q' = uN x → r' < uN y → uN x / uN y = q' := fun q' r' h1 h2 => ((Nat.div_mod_unique hY).mpr ⟨h1, h2⟩).1
      have hb := belowC (x - E * y) y
      rw [d1] at hb
      apply uN_inj
      have hqq : uN x / uN y ≤ uN x := Nat.div_le_self _ _
      rw [uN_lN (by omega)]
      generalize uN y * (uN x / 2 / uN y) = P at *
      by_cases d2 : uN x - 2 * P < uN y
      · rw [if_pos d2] at hb
        rw [hb, if_neg (by decide), e2, key _ _ (by rw [k0']; omega) d2]
        rfl
      · rw [if_neg d2] at hb
        rw [hb, if_pos rfl, uN_add, e2, k1_, key (2 * (uN x / 2 / uN y) + 1) (uN x - 2 * P - uN y) (by rw [k1']; omega) (by omega)]
        omega
    · have hy0 := mt (uN_le0 y).mpr h0
      rw [if_neg h0, belowC]
      by_cases d : uN x < uN y
      · rw [if_pos d, if_neg (by decide), Nat.div_eq_of_lt d]; rfl
      · have : uN x / uN y = 1 := by
          apply Nat.div_eq_of_lt_le <;> omega
        rw [if_neg d, if_pos rfl, this]; rfl
theorem rest_C (x y : Int64) : f_X1_restUnsigned x y = rU x y := by
  unfold f_X1_restUnsigned
  rw [quot_C]
  unfold qU rU
  by_cases c : y = 0
  · rw [if_pos c, if_pos c, c]
    grind
  · rw [if_neg c, if_neg c]
    have e := lN_dm x y
    grind
