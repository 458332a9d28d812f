/-- the class's three upper halves, and the reference's -/
theorem hi_ss (x y : Int64) : f_J2_multiplyHigh x y = f_X4_upper x y - (if (0 : Int64) ≤ x then (0 : Int64) else y) - (if (0 : Int64) ≤ y then (0 : Int64) else x) := by
  apply uN_inj
  have h := mhi x y
  have hx := uN_lt x
  have hy := uN_lt y
  have hx0 := uN_le0 x
  have hy0 := uN_le0 y
  have hu := upS x y
  have hm := uN_lt (f_J2_multiplyHigh x y)
  have hq : uN x * uN y / 18446744073709551616 < 18446744073709551616 := by rw [← hu]; exact uN_lt _
  rw [uN_int (f_J2_multiplyHigh x y), uN_int x, uN_int y] at h
  have key : ∀ (a b : Int), (a - 18446744073709551616) * b = a * b - 18446744073709551616 * b := fun a b => Int.sub_mul _ _ _
  have key2 : ∀ (a b : Int), a * (b - 18446744073709551616) = a * b - a * 18446744073709551616 := fun a b => Int.mul_sub _ _ _
  have hc : ((uN x * uN y : Nat) : Int) = (uN x : Int) * (uN y : Int) := Int.natCast_mul _ _
  generalize f_J2_multiplyHigh x y = z at *
  generalize f_X4_upper x y = w at *
  by_cases cx : (0 : Int64) ≤ x
  · have dx := hx0.mp cx
    by_cases cy : (0 : Int64) ≤ y
    · have dy := hy0.mp cy
      rw [if_pos (show 2 * uN x < 18446744073709551616 by omega), if_pos (show 2 * uN y < 18446744073709551616 by omega), ← hc] at h
      rw [if_pos cx, if_pos cy, uN_sub, uN_sub, k0_, hu]
      generalize uN x * uN y = P at *
      clear key key2 hc
      split at h <;> omega
    · have dy := mt hy0.mpr cy
      rw [if_pos (show 2 * uN x < 18446744073709551616 by omega), if_neg (show ¬ 2 * uN y < 18446744073709551616 by omega), key2, ← hc] at h
      rw [if_pos cx, if_neg cy, uN_sub, uN_sub, k0_, hu]
      generalize uN x * uN y = P at *
      clear key key2 hc
      split at h <;> omega
  · have dx := mt hx0.mpr cx
    by_cases cy : (0 : Int64) ≤ y
    · have dy := hy0.mp cy
      rw [if_neg (show ¬ 2 * uN x < 18446744073709551616 by omega), if_pos (show 2 * uN y < 18446744073709551616 by omega), key, ← hc] at h
      rw [if_neg cx, if_pos cy, uN_sub, uN_sub, k0_, hu]
      generalize uN x * uN y = P at *
      clear key key2 hc
      split at h <;> omega
    · have dy := mt hy0.mpr cy
      rw [if_neg (show ¬ 2 * uN x < 18446744073709551616 by omega), if_neg (show ¬ 2 * uN y < 18446744073709551616 by omega), key, key2, ← hc] at h
      rw [if_neg cx, if_neg cy, uN_sub, uN_sub, hu]
      generalize uN x * uN y = P at *
      clear key key2 hc
      split at h <;> omega
theorem hi_su (x y : Int64) : f_X1_highWithUnsigned x y = f_X4_upper x y - (if (0 : Int64) ≤ x then (0 : Int64) else y) := by
  unfold f_X1_highWithUnsigned
  rw [hi_ss]
  by_cases cy : (0 : Int64) ≤ y
  · rw [if_pos cy, if_pos cy]; grind
  · rw [if_neg cy, if_neg cy]; grind
theorem hi_uu (x y : Int64) : f_X1_highUnsigned x y = f_X4_upper x y := by
  unfold f_X1_highUnsigned
  rw [hi_su]
  by_cases cx : (0 : Int64) ≤ x
  · rw [if_pos cx, if_pos cx]; grind
  · rw [if_neg cx, if_neg cx]; grind
/-- f is one of eight -/
theorem f8 (w : Int32) : f_X2_f w = 0 ∨ f_X2_f w = 1 ∨ f_X2_f w = 2 ∨ f_X2_f w = 3 ∨ f_X2_f w = 4 ∨ f_X2_f w = 5 ∨ f_X2_f w = 6 ∨ f_X2_f w = 7 := by
  rw [cf_f]
  have h : uI w / 2 ^ 12 % 2 ^ 3 < 8 := by omega
  generalize uI w / 2 ^ 12 % 2 ^ 3 = j at *
  rcases (show j = 0 ∨ j = 1 ∨ j = 2 ∨ j = 3 ∨ j = 4 ∨ j = 5 ∨ j = 6 ∨ j = 7 by omega) with rfl | rfl | rfl | rfl | rfl | rfl | rfl | rfl <;> decide
/-- products and quotients of longs: the class's number is the reference's, whose state changes in its two last fields alone -/
theorem prod_tie (v : SmT) (f : Int32) (x y : Int64) (hx : v.2.2.2.2.2.2.1 = x) (hy : v.2.2.2.2.2.2.2.1 = y) (hf : f = 0 ∨ f = 1 ∨ f = 2 ∨ f = 3 ∨ f = 4 ∨ f = 5 ∨ f = 6 ∨ f = 7) : ∃ q r : Int64, f_X4_product v f = (f_X1_product f x y, sm12 (sm11 v q) r) := by
  have pz : ∀ (a : Int64), a - (0 : Int64) = a := fun a => by grind
  unfold f_X4_product f_X1_product
  rw [hx, hy]
  rcases hf with rfl | rfl | rfl | rfl | rfl | rfl | rfl | rfl
  · exact ⟨v.2.2.2.2.2.2.2.2.2.2.2.1, v.2.2.2.2.2.2.2.2.2.2.2.2, rfl⟩
  · refine ⟨v.2.2.2.2.2.2.2.2.2.2.2.1, v.2.2.2.2.2.2.2.2.2.2.2.2, ?_⟩
    rw [show (if (1 : Int32) = (0 : Int32) then x * y else if (1 : Int32) = (1 : Int32) then f_J2_multiplyHigh x y else if (1 : Int32) = (2 : Int32) then f_X1_highWithUnsigned x y else if (1 : Int32) = (3 : Int32) then f_X1_highUnsigned x y else if (1 : Int32) = (4 : Int32) then if y = (0 : Int64) then (-1 : Int64) else x / y else if (1 : Int32) = (5 : Int32) then f_X1_quotientUnsigned x y else if (1 : Int32) = (6 : Int32) then if y = (0 : Int64) then x else x - x / y * y else f_X1_restUnsigned x y) = f_J2_multiplyHigh x y from rfl, if_neg (by decide), if_pos rfl, hi_ss x y]
    by_cases cx : (0 : Int64) ≤ x
    · rw [if_pos cx, if_pos cx]
      by_cases cy : (0 : Int64) ≤ y
      · rw [if_pos cy, if_pos cy]
      · rw [if_neg cy, if_neg cy]
    · rw [if_neg cx, if_neg cx]
      by_cases cy : (0 : Int64) ≤ y
      · rw [if_pos cy, if_pos cy]
      · rw [if_neg cy, if_neg cy]
  · refine ⟨v.2.2.2.2.2.2.2.2.2.2.2.1, v.2.2.2.2.2.2.2.2.2.2.2.2, ?_⟩
    rw [show (if (2 : Int32) = (0 : Int32) then x * y else if (2 : Int32) = (1 : Int32) then f_J2_multiplyHigh x y else if (2 : Int32) = (2 : Int32) then f_X1_highWithUnsigned x y else if (2 : Int32) = (3 : Int32) then f_X1_highUnsigned x y else if (2 : Int32) = (4 : Int32) then if y = (0 : Int64) then (-1 : Int64) else x / y else if (2 : Int32) = (5 : Int32) then f_X1_quotientUnsigned x y else if (2 : Int32) = (6 : Int32) then if y = (0 : Int64) then x else x - x / y * y else f_X1_restUnsigned x y) = f_X1_highWithUnsigned x y from rfl, if_neg (by decide), if_neg (by decide), if_pos rfl, hi_su x y]
    by_cases cx : (0 : Int64) ≤ x
    · rw [if_pos cx, if_pos cx]
    · rw [if_neg cx, if_neg cx]
  · refine ⟨v.2.2.2.2.2.2.2.2.2.2.2.1, v.2.2.2.2.2.2.2.2.2.2.2.2, ?_⟩
    rw [if_neg (by decide), if_neg (by decide), if_neg (by decide), if_pos rfl, if_neg (by decide), if_neg (by decide), if_neg (by decide), if_pos rfl, hi_uu x y]
  · refine ⟨qS x y, rS x y, ?_⟩
    rw [if_neg (by decide), if_neg (by decide), if_neg (by decide), if_neg (by decide), if_pos rfl, if_neg (by decide), dA_s]
    rw [if_neg (by decide), if_neg (by decide), if_neg (by decide), if_neg (by decide), if_pos rfl]
    rfl
  · refine ⟨qU x y, rU x y, ?_⟩
    rw [if_neg (by decide), if_neg (by decide), if_neg (by decide), if_neg (by decide), if_neg (by decide), if_neg (by decide), if_neg (by decide), dA_u]
    rw [if_neg (by decide), if_neg (by decide), if_neg (by decide), if_neg (by decide), if_neg (by decide), if_pos rfl, quot_C]
  · refine ⟨qS x y, rS x y, ?_⟩
    rw [if_neg (by decide), if_neg (by decide), if_neg (by decide), if_neg (by decide), if_neg (by decide), if_pos rfl, if_pos (by decide), dA_s]
    rw [if_neg (by decide), if_neg (by decide), if_neg (by decide), if_neg (by decide), if_neg (by decide), if_neg (by decide), if_pos rfl]
    rfl
  · refine ⟨qU x y, rU x y, ?_⟩
    rw [if_neg (by decide), if_neg (by decide), if_neg (by decide), if_neg (by decide), if_neg (by decide), if_neg (by decide), if_pos (by decide), dA_u]
    rw [if_neg (by decide), if_neg (by decide), if_neg (by decide), if_neg (by decide), if_neg (by decide), if_neg (by decide), if_neg (by decide), rest_C]
