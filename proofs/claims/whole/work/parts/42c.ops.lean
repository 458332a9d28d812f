/-- class and reference while an instruction w is carried out -/
def Mid (u : ScT) (v : SmT) (w : Int32) : Prop :=
  u.1 = v.2.1 ∧ u.2.1 = v.2.2.1 ∧ u.2.2.1 = v.2.2.2.1 ∧ (v.2.2.2.2.2.2.2.2.2.2.1 ((4 : Int32).toNatClampNeg)).toInt32 ≤ (31 : Int32) ∧ u.2.2.2.2.1 = 0 ∧ v.2.2.2.2.2.2.2.2.1 = -1 ∧ v.2.2.2.2.2.1 = u.2.2.2.1 ∧ v.2.2.2.2.1 = w ∧ v.2.2.2.2.2.2.1 = f_X3_x u w ∧ v.2.2.2.2.2.2.2.1 = f_X3_y u w ∧ v.1 = 0
def Out (r : Int32 × ScT) (q : Int32 × SmT) : Prop := r.1 = q.1 ∧ q.2.1 = 0 ∧ Sim r.2 q.2
theorem Mid.sm {u : ScT} {v : SmT} {w : Int32} (m : Mid u v w) (q r : Int64) : Mid u (sm12 (sm11 v q) r) w := m
theorem out_ill {u : ScT} {v : SmT} {w : Int32} (m : Mid u v w) : Out ((-1 : Int32), u) ((-1 : Int32), v) := by
  obtain ⟨m1, m2, m3, m4, m5, m6, m7, m8, m9, m10, m11⟩ := m
  exact ⟨rfl, m11, m1, m2, m3, m4, Or.inl ⟨m5, m6⟩⟩
theorem d_ge (w : Int32) : 0 ≤ f_X2_d w := by rw [cf_d]; exact nI_pos' (by omega)
theorem d_le (w : Int32) : f_X2_d w ≤ 31 := by rw [cf_d]; exact nI_le (b := 31) (by omega) (by decide)
theorem d_ok (w : Int32) : ¬ f_X3_isRegister (f_X2_d w) = 0 := reg_ok _ (d_ge w) (d_le w)
theorem out_done {u : ScT} {v : SmT} {w : Int32} (m : Mid u v w) {x y : Int64} (h : x = y) {d : Int32} (hd : d = f_X2_d w) : Out (f_X3_give u w x) (f_X4_done_ v d y) := by
  obtain ⟨m1, m2, m3, m4, m5, m6, m7, m8, m9, m10, m11⟩ := m
  unfold f_X3_give f_X4_done_ f_X3_complete
  rw [hd, putC _ _ _ (d_ok w), putM _ _ _ (d_ge w), h]
  refine ⟨rfl, m11, congrArg (fun f => pt f (f_X2_d w) y) m1, ?_, ?_, m4, Or.inl ⟨m5, m6⟩⟩
  · show u.2.1 + u.2.2.2.1.toInt64 = v.2.2.1 + v.2.2.2.2.2.1.toInt64
    rw [m2, m7]
  · show u.2.2.1 + 1 = v.2.2.2.1 + 1
    rw [m3]
theorem out_go {u : ScT} {v : SmT} {w : Int32} (m : Mid u v w) {x y : Int64} (h : x = y) : Out (f_X3_complete u x) (f_X4_go v y) := by
  obtain ⟨m1, m2, m3, m4, m5, m6, m7, m8, m9, m10, m11⟩ := m
  unfold f_X4_go f_X3_complete
  refine ⟨rfl, m11, m1, h, ?_, m4, Or.inl ⟨m5, m6⟩⟩
  show u.2.2.1 + 1 = v.2.2.2.1 + 1
  rw [m3]
theorem out_link {u : ScT} {v : SmT} {w : Int32} (m : Mid u v w) {x y : Int64} (h : x = y) {d : Int32} (hd : d = f_X2_d w) {b : Int64} (hb : b = u.2.1 + u.2.2.2.1.toInt64) : Out (f_X3_link u w x) (f_X4_go (f_X4_put v d b) y) := by
  obtain ⟨m1, m2, m3, m4, m5, m6, m7, m8, m9, m10, m11⟩ := m
  unfold f_X3_link f_X4_go f_X3_complete
  rw [hd, hb, putC _ _ _ (d_ok w), putM _ _ _ (d_ge w)]
  refine ⟨rfl, m11, congrArg (fun f => pt f (f_X2_d w) _) m1, h, ?_, m4, Or.inl ⟨m5, m6⟩⟩
  show u.2.2.1 + 1 = v.2.2.2.1 + 1
  rw [m3]
theorem out_want {u : ScT} {v : SmT} {w : Int32} (m : Mid u v w) (kind : Int32) (a : Int64) {a' : Int64} (ha : a' = a) (sz : Int32) {sz' : Int64} (hs : sz' = sz.toInt64) (op : Int64) {op' : Int64} (ho : op' = op) (so : Int32) {so' : Int64} (hso : so' = so.toInt64) (d : Int32) {d' : Int32} (hd : d' = d) (hk : kind = 2 ∨ kind = 3 ∨ kind = 4 ∨ kind = 5 ∨ kind = 6) (h0 : 0 ≤ d) (h1 : d ≤ 31) (h2 : kind = 2 → (sz = 1 ∨ sz = 2 ∨ sz = 4 ∨ sz = 8)) (h3 : kind = 3 → d = 0) : Out (f_X3_want u kind a sz op so d) (f_X4_want v kind a' sz' op' so' d') := by
  obtain ⟨m1, m2, m3, m4, m5, m6, m7, m8, m9, m10, m11⟩ := m
  subst ha hs ho hso hd
  unfold f_X3_want f_X4_want
  rw [nc0, nc1, nc2, nc3, nc4]
  refine ⟨rfl, m11, m1, m2, m3, ?_, Or.inr ⟨rfl, hk, m7, rfl, rfl, rfl, rfl, rfl, ⟨h0, h1⟩, h2, h3⟩⟩
  show (vp_updL (vp_updL (vp_updL (vp_updL (vp_updL v.2.2.2.2.2.2.2.2.2.2.1 0 a') 1 sz.toInt64) 2 op') 3 so.toInt64) 4 d'.toInt64 ((4 : Int32).toNatClampNeg)).toInt32 ≤ 31
  rw [nc4, pk_uLs, Int32.toInt32_toInt64]
  exact h1
theorem op_19 {u : ScT} {v : SmT} {w : Int32} (m : Mid u v w) {d f : Int32} (hd : d = f_X2_d w) (hf : f = f_X2_f w) : Out (f_X3_operateLongWithImmediate u w) (f_X4_withImmediate v d f) := by
  have hw : v.2.2.2.2.1 = w := m.2.2.2.2.2.2.2.1
  have hx : v.2.2.2.2.2.2.1 = f_X3_x u w := m.2.2.2.2.2.2.2.2.1
  have pl := plain_tie f (f_X3_x u w) (f_X2_immediateI w).toInt64 (f_X4_bits v 25 20) (fun _ => sh6 v w hw)
  have sr : f_X1_shiftRightWithSign (f_X3_x u w) (f_X2_immediateI w).toInt64 = j_lshr (f_X3_x u w) (f_X4_bits v 25 20) := by
    unfold f_X1_shiftRightWithSign; rw [sh6 v w hw]
  unfold f_X3_operateLongWithImmediate f_X4_withImmediate
  rw [cm_aboveLongShift w v hw, im_I v w hw, hx, ← hf]
  have k : ∀ z, Out (f_X3_give u w z) (f_X4_done_ v d z) := fun z => out_done m rfl hd
  by_cases c5 : f = (5 : Int32)
  · have c1 : ¬ f = (1 : Int32) := by rw [c5]; decide
    by_cases c16 : f_X2_aboveLongShift w = (16 : Int32)
    · have c0 : ¬ f_X2_aboveLongShift w = 0 := by rw [c16]; decide
      simp only [if_pos c5, if_neg c1, if_pos c16, if_neg c0, sr]
      exact k _
    · by_cases c0 : f_X2_aboveLongShift w = 0
      · simp only [if_pos c5, if_neg c1, if_neg c16, if_pos c0, pl]; exact k _
      · simp only [if_pos c5, if_neg c1, if_neg c16, if_neg c0]; exact out_ill m
  · by_cases c1 : f = (1 : Int32)
    · by_cases c0 : f_X2_aboveLongShift w = 0
      · simp only [if_neg c5, if_pos c1, if_pos c0, pl]; exact k _
      · simp only [if_neg c5, if_pos c1, if_neg c0]; exact out_ill m
    · simp only [if_neg c5, if_neg c1, pl]; exact k _
theorem op_51 {u : ScT} {v : SmT} {w : Int32} (m : Mid u v w) {d f g : Int32} (hd : d = f_X2_d w) (hf : f = f_X2_f w) (hg : g = f_X2_g w) : Out (f_X3_operateLongs u w) (f_X4_withRegister v d f g) := by
  have hx : v.2.2.2.2.2.2.1 = f_X3_x u w := m.2.2.2.2.2.2.2.2.1
  have hy : v.2.2.2.2.2.2.2.1 = f_X3_y u w := m.2.2.2.2.2.2.2.2.2.1
  have pl := plain_tie f (f_X3_x u w) (f_X3_y u w) ((f_X3_y u w) &&& (63 : Int64)).toInt32 (fun _ => rfl)
  have k : ∀ z, Out (f_X3_give u w z) (f_X4_done_ v d z) := fun z => out_done m rfl hd
  unfold f_X3_operateLongs f_X4_withRegister
  rw [hx, hy, ← hf, ← hg]
  by_cases c0 : g = (0 : Int32)
  · simp only [if_pos c0, pl]; exact k _
  · by_cases c1 : g = (1 : Int32)
    · have c32 : ¬ g = (32 : Int32) := by rw [c1]; decide
      obtain ⟨q, r, e⟩ := prod_tie v f (f_X3_x u w) (f_X3_y u w) hx hy (by rw [hf]; exact f8 w)
      simp only [if_neg c0, if_pos c1, if_neg c32, e]
      exact out_done (m.sm q r) rfl hd
    · by_cases c32 : g = (32 : Int32)
      · by_cases f0 : f = 0
        · simp only [if_neg c0, if_neg c1, if_pos c32, if_pos f0]; exact k _
        · by_cases f5 : f = (5 : Int32)
          · simp only [if_neg c0, if_neg c1, if_pos c32, if_neg f0, if_pos f5]; exact k _
          · simp only [if_neg c0, if_neg c1, if_pos c32, if_neg f0, if_neg f5]; exact out_ill m
      · simp only [if_neg c0, if_neg c1, if_neg c32]; exact out_ill m
theorem op_27 {u : ScT} {v : SmT} {w : Int32} (m : Mid u v w) {d f g : Int32} (hd : d = f_X2_d w) (hf : f = f_X2_f w) (hg : g = f_X2_g w) : Out (f_X3_operateIntWithImmediate u w) (f_X4_intImmediate v d f g) := by
  have hw : v.2.2.2.2.1 = w := m.2.2.2.2.2.2.2.1
  have hx : v.2.2.2.2.2.2.1 = f_X3_x u w := m.2.2.2.2.2.2.2.2.1
  have k : ∀ y z, y = z → Out (f_X3_give u w y) (f_X4_done_ v d z) := fun y z h => out_done m h hd
  have e0 : ((f_X3_x u w) + (f_X2_immediateI w).toInt64).toInt32 = (f_X3_x u w).toInt32 + f_X2_immediateI w := by rw [Int64.toInt32_add, Int32.toInt32_toInt64]
  have hj : uI w / 2 ^ 20 % 2 ^ 5 < 32 := by omega
  have eb : f_X2_b w &&& (31 : Int32) = f_X2_b w := by rw [cf_b]; exact b31 hj
  have e1 : (j_lshl (f_X3_x u w) (f_X2_b w)).toInt32 = (f_X3_x u w).toInt32 <<< (f_X2_b w &&& 31) := by rw [cf_b]; exact slli _ hj
  unfold f_X3_operateIntWithImmediate f_X4_intImmediate
  rw [hx, im_I v w hw, cm_b w v hw, ← hf, ← hg]
  by_cases f0 : f = 0
  · simp only [if_pos f0]
    exact k _ _ (by rw [e0])
  · by_cases f5 : f = (5 : Int32)
    · have f1 : ¬ f = (1 : Int32) := by rw [f5]; decide
      by_cases g32 : g = (32 : Int32)
      · have g0 : ¬ g = 0 := by rw [g32]; decide
        simp only [if_neg f0, if_pos f5, if_neg f1, if_pos g32, if_neg g0]
        refine k _ _ ?_
        unfold f_X0_shiftRightWithSign
        rw [eb, eb]
      · by_cases g0 : g = 0
        · simp only [if_neg f0, if_pos f5, if_neg f1, if_neg g32, if_pos g0]
          refine k _ _ ?_
          unfold f_X0_plain
          rw [if_neg (show ¬ f = (0 : Int32) from f0), if_neg f1, eb]
        · simp only [if_neg f0, if_pos f5, if_neg f1, if_neg g32, if_neg g0]; exact out_ill m
    · by_cases f1 : f = (1 : Int32)
      · by_cases g0 : g = 0
        · simp only [if_neg f0, if_neg f5, if_pos f1, if_pos g0]
          refine k _ _ ?_
          unfold f_X0_plain
          rw [if_neg (show ¬ f = (0 : Int32) from f0), if_pos f1, eb, e1, eb]
        · simp only [if_neg f0, if_neg f5, if_pos f1, if_neg g0]; exact out_ill m
      · simp only [if_neg f0, if_neg f5, if_neg f1]; exact out_ill m
theorem op_59 {u : ScT} {v : SmT} {w : Int32} (m : Mid u v w) {d f g : Int32} (hd : d = f_X2_d w) (hf : f = f_X2_f w) (hg : g = f_X2_g w) : Out (f_X3_operateInts u w) (f_X4_intRegister v d f g) := by
  have hx : v.2.2.2.2.2.2.1 = f_X3_x u w := m.2.2.2.2.2.2.2.2.1
  have hy : v.2.2.2.2.2.2.2.1 = f_X3_y u w := m.2.2.2.2.2.2.2.2.2.1
  have k : ∀ y z, y = z → Out (f_X3_give u w y) (f_X4_done_ v d z) := fun y z h => out_done m h hd
  have ea : ((f_X3_y u w) &&& (31 : Int64)).toInt32 = (f_X3_y u w).toInt32 &&& (31 : Int32) := by rw [Int64.toInt32_and]; rfl
  unfold f_X3_operateInts f_X4_intRegister
  rw [hx, hy, ← hf, ← hg, ea]
  by_cases g1 : g = (1 : Int32)
  · have g0 : ¬ g = (0 : Int32) := by rw [g1]; decide
    have h8 := f8 w
    rw [← hf] at h8
    have hp : (f = 0 ∨ f = 4 ∨ f = 5 ∨ f = 6 ∨ f = 7) → Out (f_X3_give u w (f_X0_product f (f_X3_x u w).toInt32 (f_X3_y u w).toInt32).toInt64) (f_X4_intProduct v d f) := by
      intro h
      obtain ⟨q, r, e⟩ := iprod_tie v d f (f_X3_x u w) (f_X3_y u w) hx hy h
      rw [e]
      exact out_done (m.sm q r) rfl hd
    by_cases f0 : f = 0
    · simp only [if_neg g0, if_pos g1, if_pos f0]; exact hp (Or.inl f0)
    · by_cases f4 : f < (4 : Int32)
      · simp only [if_neg g0, if_pos g1, if_neg f0, if_pos f4]
        have : f_X4_intProduct v d f = ((-1 : Int32), v) := by
          unfold f_X4_intProduct
          rw [if_neg f0, if_neg (by rw [Int32.le_iff_toInt_le]; rw [Int32.lt_iff_toInt_lt] at f4; omega)]
        rw [this]
        exact out_ill m
      · simp only [if_neg g0, if_pos g1, if_neg f0, if_neg f4]
        refine hp ?_
        rcases h8 with h | h | h | h | h | h | h | h
        · exact absurd h f0
        · exact absurd (by rw [h]; decide) f4
        · exact absurd (by rw [h]; decide) f4
        · exact absurd (by rw [h]; decide) f4
        · exact Or.inr (Or.inl h)
        · exact Or.inr (Or.inr (Or.inl h))
        · exact Or.inr (Or.inr (Or.inr (Or.inl h)))
        · exact Or.inr (Or.inr (Or.inr (Or.inr h)))
  · by_cases g0 : g = (0 : Int32)
    · have g32 : ¬ g = (32 : Int32) := by rw [g0]; decide
      by_cases f0 : f = 0
      · simp only [if_neg g1, if_pos g0, if_pos f0]
        refine k _ _ ?_
        unfold f_X0_plain
        rw [if_pos (show f = (0 : Int32) from f0), Int64.toInt32_add]
      · by_cases f1 : f = (1 : Int32)
        · simp only [if_neg g1, if_pos g0, if_neg f0, if_pos f1]
          refine k _ _ ?_
          unfold f_X0_plain
          rw [if_neg (show ¬ f = (0 : Int32) from f0), if_pos f1]
        · by_cases f5 : f = (5 : Int32)
          · simp only [if_neg g1, if_pos g0, if_neg f0, if_neg f1, if_pos f5]
            refine k _ _ ?_
            unfold f_X0_plain
            rw [if_neg (show ¬ f = (0 : Int32) from f0), if_neg f1]
          · simp only [if_neg g1, if_pos g0, if_neg f0, if_neg f1, if_neg f5, if_neg g32]; exact out_ill m
    · by_cases g32 : g = (32 : Int32)
      · by_cases f0 : f = 0
        · simp only [if_neg g1, if_neg g0, if_pos g32, if_pos f0]
          exact k _ _ (by rw [Int64.toInt32_sub])
        · by_cases f5 : f = (5 : Int32)
          · simp only [if_neg g1, if_neg g0, if_pos g32, if_neg f0, if_pos f5]; exact k _ _ rfl
          · simp only [if_neg g1, if_neg g0, if_pos g32, if_neg f0, if_neg f5]; exact out_ill m
      · simp only [if_neg g1, if_neg g0, if_neg g32]; exact out_ill m
