theorem n32 (x : Int64) : uI x.toInt32 = uN x % 4294967296 := by
  show (x.toBitVec.signExtend 32).toNat = x.toBitVec.toNat % 2 ^ 32
  rw [BitVec.signExtend_eq_setWidth_of_le _ (by decide), BitVec.toNat_setWidth]
theorem ul_eq (X : Int64) : f_J0_toUnsignedLong X.toInt32 = X &&& (4294967295 : Int64) := by
  unfold f_J0_toUnsignedLong
  apply uN_inj
  rw [uN_lo, uN_lo, ← n32, ← n32, Int32.toInt32_toInt64]
theorem ul_0 (Y : Int64) : (Y &&& (4294967295 : Int64)) = 0 ↔ Y.toInt32 = 0 := by
  rw [← ul_eq]
  constructor
  · intro h
    rcases Classical.em (Y.toInt32 = 0) with c | c
    · exact c
    · exact absurd h (ul_nz _ c)
  · intro h; rw [h]; decide
theorem ul_nn (X : Int64) : (0 : Int64) ≤ X &&& (4294967295 : Int64) := (uN_le0 _).mpr (by rw [uN_lo]; omega)
theorem i64_0 (y : Int32) : y.toInt64 = 0 ↔ y = 0 := by
  constructor
  · intro h
    have := congrArg Int64.toInt32 h
    rw [Int32.toInt32_toInt64] at this
    exact this
  · intro h; rw [h]; rfl
theorem idiv_ (x y : Int32) : (x.toInt64 / y.toInt64).toInt32 = x / y := by
  apply Int32.toInt_inj.mp
  rw [Int64.toInt_toInt32, Int64.toInt_div, Int32.toInt_div, Int32.toInt_toInt64, Int32.toInt_toInt64]
  exact Int.bmod_bmod_of_dvd (by decide)
theorem ip_4 (X Y : Int64) : (qS X.toInt32.toInt64 Y.toInt32.toInt64).toInt32 = f_X0_product 4 X.toInt32 Y.toInt32 := by
  unfold qS
  show _ = if Y.toInt32 = 0 then (-1 : Int32) else X.toInt32 / Y.toInt32
  by_cases c : Y.toInt32 = 0
  · rw [if_pos c, if_pos ((i64_0 _).mpr c)]; rfl
  · rw [if_neg c, if_neg (mt (i64_0 _).mp c), idiv_]
theorem ip_6 (X Y : Int64) : (rS X.toInt32.toInt64 Y.toInt32.toInt64).toInt32 = f_X0_product 6 X.toInt32 Y.toInt32 := by
  unfold rS
  show _ = if Y.toInt32 = 0 then X.toInt32 else X.toInt32 - X.toInt32 / Y.toInt32 * Y.toInt32
  by_cases c : Y.toInt32 = 0
  · rw [if_pos c, if_pos ((i64_0 _).mpr c), Int32.toInt32_toInt64]
  · rw [if_neg c, if_neg (mt (i64_0 _).mp c), Int64.toInt32_sub, Int64.toInt32_mul, idiv_, Int32.toInt32_toInt64, Int32.toInt32_toInt64]
theorem ip_5 (X Y : Int64) : (qU (X &&& (4294967295 : Int64)) (Y &&& (4294967295 : Int64))).toInt32 = f_X0_product 5 X.toInt32 Y.toInt32 := by
  unfold qU
  show _ = if Y.toInt32 = 0 then (-1 : Int32) else f_J0_divideUnsigned X.toInt32 Y.toInt32
  by_cases c : Y.toInt32 = 0
  · rw [if_pos c, if_pos ((ul_0 Y).mpr c)]; rfl
  · rw [if_neg c, if_neg (mt (ul_0 Y).mp c)]
    unfold f_J0_divideUnsigned
    rw [ul_eq, ul_eq, sdiv_pp _ _ (ul_nn X) (ul_nn Y)]
theorem ip_7 (X Y : Int64) : (rU (X &&& (4294967295 : Int64)) (Y &&& (4294967295 : Int64))).toInt32 = f_X0_product 7 X.toInt32 Y.toInt32 := by
  unfold rU
  show _ = if Y.toInt32 = 0 then X.toInt32 else f_J0_remainderUnsigned X.toInt32 Y.toInt32
  by_cases c : Y.toInt32 = 0
  · rw [if_pos c, if_pos ((ul_0 Y).mpr c), ← ul_eq]
    unfold f_J0_toUnsignedLong
    rw [Int64.toInt32_and, Int32.toInt32_toInt64, show (4294967295 : Int64).toInt32 = -1 from by decide, Int32.and_neg_one]
  · rw [if_neg c, if_neg (mt (ul_0 Y).mp c)]
    unfold f_J0_remainderUnsigned
    rw [ul_eq, ul_eq, sdiv_pp _ _ (ul_nn X) (ul_nn Y)]
    have e := lN_dm (X &&& (4294967295 : Int64)) (Y &&& (4294967295 : Int64))
    congr 1
    grind
theorem ip_0 (X Y : Int64) : (X * Y).toInt32 = f_X0_product 0 X.toInt32 Y.toInt32 := Int64.toInt32_mul X Y
theorem iprod_tie (v : SmT) (d f : Int32) (X Y : Int64) (hx : v.2.2.2.2.2.2.1 = X) (hy : v.2.2.2.2.2.2.2.1 = Y) (hf : f = 0 ∨ f = 4 ∨ f = 5 ∨ f = 6 ∨ f = 7) : ∃ q r : Int64, f_X4_intProduct v d f = f_X4_done_ (sm12 (sm11 v q) r) d (f_X0_product f X.toInt32 Y.toInt32).toInt64 := by
  unfold f_X4_intProduct
  rw [hx, hy]
  rcases hf with rfl | rfl | rfl | rfl | rfl
  · refine ⟨v.2.2.2.2.2.2.2.2.2.2.2.1, v.2.2.2.2.2.2.2.2.2.2.2.2, ?_⟩
    rw [if_pos rfl, ip_0]
  · refine ⟨qS X.toInt32.toInt64 Y.toInt32.toInt64, rS X.toInt32.toInt64 Y.toInt32.toInt64, ?_⟩
    rw [if_neg (by decide), if_pos (by decide), if_pos rfl, if_neg (by decide), dA_s, ← ip_4]
  · refine ⟨qU (X &&& (4294967295 : Int64)) (Y &&& (4294967295 : Int64)), rU (X &&& (4294967295 : Int64)) (Y &&& (4294967295 : Int64)), ?_⟩
    rw [if_neg (by decide), if_pos (by decide), if_neg (by decide), if_neg (by decide), if_neg (by decide), dA_u, ← ip_5]
  · refine ⟨qS X.toInt32.toInt64 Y.toInt32.toInt64, rS X.toInt32.toInt64 Y.toInt32.toInt64, ?_⟩
    rw [if_neg (by decide), if_pos (by decide), if_neg (by decide), if_pos rfl, if_pos (by decide), dA_s, ← ip_6]
  · refine ⟨qU (X &&& (4294967295 : Int64)) (Y &&& (4294967295 : Int64)), rU (X &&& (4294967295 : Int64)) (Y &&& (4294967295 : Int64)), ?_⟩
    rw [if_neg (by decide), if_pos (by decide), if_neg (by decide), if_neg (by decide), if_pos (by decide), dA_u, ← ip_7]
theorem b31 {j : Nat} (h : j < 32) : nI j &&& (31 : Int32) = nI j := by
  rw [pk_andN (by omega) 5 (by decide)]
  congr 1
  omega
theorem slli (X : Int64) {j : Nat} (h : j < 32) : (j_lshl X (nI j)).toInt32 = X.toInt32 <<< (nI j &&& 31) := by
  apply uI_inj
  have hs : ∀ j : Nat, j < 32 → ((nI j &&& 31).toBitVec.smod 32).toNat = j := by decide +kernel
  rw [n32, uN_jlshl X (by omega), uI_shl _ _ j (hs j h), n32]
  rw [Nat.mod_mod_of_dvd _ (by decide), Nat.mod_mul_mod]
theorem plain_tie (f : Int32) (x y : Int64) (p : Int32) (hp : (f = 1 ∨ f = 5) → (y &&& (63 : Int64)).toInt32 = p) : f_X1_plain f x y = f_X4_plain f x y p := by
  unfold f_X1_plain f_X4_plain f_X4_truth
  by_cases c0 : f = (0 : Int32)
  · rw [if_pos c0, if_pos c0]
  rw [if_neg c0, if_neg c0]
  by_cases c1 : f = (1 : Int32)
  · rw [if_pos c1, if_pos c1, hp (Or.inl c1)]
  rw [if_neg c1, if_neg c1]
  by_cases c2 : f = (2 : Int32)
  · rw [if_pos c2, if_pos c2]
    by_cases h : y ≤ x
    · rw [if_pos h, if_pos h]; rfl
    · rw [if_neg h, if_neg h]; rfl
  rw [if_neg c2, if_neg c2]
  by_cases c3 : f = (3 : Int32)
  · rw [if_pos c3, if_pos c3, below_less]
  rw [if_neg c3, if_neg c3]
  by_cases c4 : f = (4 : Int32)
  · rw [if_pos c4, if_pos c4]
  rw [if_neg c4, if_neg c4]
  by_cases c5 : f = (5 : Int32)
  · rw [if_pos c5, if_pos c5, hp (Or.inr c5)]
  rw [if_neg c5, if_neg c5]
theorem sh6 (v : SmT) (w : Int32) (hw : v.2.2.2.2.1 = w) : ((f_X2_immediateI w).toInt64 &&& (63 : Int64)).toInt32 = f_X4_bits v 25 20 := by
  rw [mbu v w hw 25 20 20 6 (by decide) (by decide) (by decide), Int64.toInt32_and, Int32.toInt32_toInt64, show (63 : Int64).toInt32 = (63 : Int32) from by decide, pk_and _ 6 (by decide)]
  unfold f_X2_immediateI
  have h := uI_sar w ((20 : Int32) &&& 31) 20 (by decide) (by decide)
  have hx := uI_lt w
  congr 1
  show uI (w >>> ((20 : Int32) &&& 31)) % 2 ^ 6 = _
  rw [h]
  split <;> omega
