/-- a register gets x, register 0 nothing -/
def pt (f : Nat → Int64) (r : Int32) (x : Int64) : Nat → Int64 := if r = 0 then f else vp_updL f r.toNatClampNeg x
theorem putC (u : ScT) (r : Int32) (x : Int64) (h : ¬ f_X3_isRegister r = 0) : f_X3_put u r x = sc0 u (pt u.1 r x) := by
  unfold f_X3_put pt
  by_cases z : r = 0
  · rw [if_pos z, if_pos z]
  · rw [if_neg z, if_neg h, if_neg z]
theorem putM (v : SmT) (r : Int32) (x : Int64) (h : 0 ≤ r) : f_X4_put v r x = sm1 v (pt v.2.1 r x) := by
  unfold f_X4_put pt
  by_cases z : r = 0
  · rw [if_pos z, if_pos (by rw [z]; decide)]
  · rw [if_neg z, if_neg (by
      intro c
      apply z
      rw [Int32.le_iff_toInt_le] at h c
      have h0 : (0 : Int32).toInt = 0 := by decide
      apply Int32.toInt_inj.mp
      omega)]
theorem reg_ge (r : Int32) (h : ¬ f_X3_isRegister r = 0) : 0 ≤ r := by
  have h1 := vp_in_iff.mp (bd_reg r h)
  rw [Int32.le_iff_toInt_le]
  have h0 : (0 : Int32).toInt = 0 := by decide
  omega
theorem reg_ok (r : Int32) (h0 : 0 ≤ r) (h1 : r ≤ 31) : ¬ f_X3_isRegister r = 0 := by
  unfold f_X3_isRegister
  rw [Int32.le_iff_toInt_le] at h0 h1
  have e0 : (0 : Int32).toInt = 0 := by decide
  have e1 : (31 : Int32).toInt = 31 := by decide
  have e2 : (32 : Int32).toInt = 32 := by decide
  rw [if_neg (by rw [Int32.lt_iff_toInt_lt]; omega), if_neg (by rw [Int32.le_iff_toInt_le]; omega)]
  decide
theorem tie_counter (u : ScT) (v : SmT) (hSim : Sim u v) : f_X3_counter u = (f_X4_counter v).1 ∧ Sim u (f_X4_counter v).2 := ⟨hSim.2.1, hSim⟩
theorem tie_done (u : ScT) (v : SmT) (hSim : Sim u v) : f_X3_done u = (f_X4_done v).1 ∧ Sim u (f_X4_done v).2 := ⟨hSim.2.2.1, hSim⟩
theorem tie_jump (u : ScT) (v : SmT) (p0 : Int64) (hSim : Sim u v) : Sim (f_X3_jump u p0) (f_X4_jump v p0) := by
  obtain ⟨h1, h2, h3, h4, h5⟩ := hSim
  exact ⟨h1, and_m2 p0, h3, h4, Or.inl ⟨rfl, rfl⟩⟩
theorem tie_get (u : ScT) (v : SmT) (z : Nat → Int64) (p0 : Int32) (hSim : Sim u v) : f_X4_thrown (f_X4_get v p0).2 = (h_get u z p0).1 ∧ ((h_get u z p0).1 = 0 → (h_get u z p0).2.2 ((0 : Int32).toNatClampNeg) = (f_X4_get v p0).1) ∧ Sim (h_get u z p0).2.1 (f_X4_get v p0).2 := by
  unfold h_get e_X3_get f_X4_get f_X3_get
  by_cases c : f_X3_isRegister p0 = 0
  · have c' : f_X4_isRegister p0 = 0 := c
    rw [if_pos c, if_pos c', if_pos rfl]
    exact ⟨rfl, fun h => absurd h (show ¬ (1 : Int32) = 0 by decide), hSim⟩
  · have c' : ¬ f_X4_isRegister p0 = 0 := c
    rw [if_neg c, if_neg c', if_neg (by decide)]
    rw [if_neg c]
    exact ⟨rfl, fun _ => by rw [show u.1 = v.2.1 from hSim.1]; exact pk_uLs (f := z) (k := (0 : Int32).toNatClampNeg) (x := v.2.1 p0.toNatClampNeg), hSim⟩
theorem tie_set (u : ScT) (v : SmT) (p0 : Int32) (p1 : Int64) (hSim : Sim u v) : f_X4_thrown (f_X4_set v p0 p1) = (h_set u p0 p1).1 ∧ Sim (h_set u p0 p1).2 (f_X4_set v p0 p1) := by
  unfold h_set e_X3_set f_X4_set f_X3_set
  by_cases c : f_X3_isRegister p0 = 0
  · have c' : f_X4_isRegister p0 = 0 := c
    rw [if_pos c, if_pos c', if_pos rfl]
    exact ⟨rfl, hSim⟩
  · have c' : ¬ f_X4_isRegister p0 = 0 := c
    rw [if_neg c, if_neg c', if_neg (by decide)]
    rw [if_neg c, putC u p0 p1 c, putM _ p0 p1 (reg_ge p0 c)]
    obtain ⟨h1, h2, h3, h4, h5⟩ := hSim
    exact ⟨rfl, congrArg (fun f => pt f p0 p1) h1, h2, h3, h4, h5⟩
