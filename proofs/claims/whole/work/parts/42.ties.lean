theorem tie_get (u : ScT) (v : SmT) (z : Nat → Int64) (p0 : Int32) (hSim : Sim u v) : f_X4_thrown (f_X4_get v p0).2 = (h_get u z p0).1 ∧ ((h_get u z p0).1 = 0 → (h_get u z p0).2.2 ((0 : Int32).toNatClampNeg) = (f_X4_get v p0).1) ∧ Sim (h_get u z p0).2.1 (f_X4_get v p0).2 := by
  sorry
theorem tie_set (u : ScT) (v : SmT) (p0 : Int32) (p1 : Int64) (hSim : Sim u v) : f_X4_thrown (f_X4_set v p0 p1) = (h_set u p0 p1).1 ∧ Sim (h_set u p0 p1).2 (f_X4_set v p0 p1) := by
  sorry
theorem tie_counter (u : ScT) (v : SmT) (hSim : Sim u v) : f_X3_counter u = (f_X4_counter v).1 ∧ Sim u (f_X4_counter v).2 := by
  sorry
theorem tie_jump (u : ScT) (v : SmT) (p0 : Int64) (hSim : Sim u v) : Sim (f_X3_jump u p0) (f_X4_jump v p0) := by
  sorry
theorem tie_run (u : ScT) (v : SmT) (z : Nat → Int64) (p0 p1 : Int32) (hSim : Sim u v) : f_X4_thrown (f_X4_run v p0 p1).2 = (h_run u z p0 p1).1 ∧ ((h_run u z p0 p1).1 = 0 → (h_run u z p0 p1).2.2 ((0 : Int32).toNatClampNeg) = (f_X4_run v p0 p1).1.toInt64) ∧ Sim (h_run u z p0 p1).2.1 (f_X4_run v p0 p1).2 := by
  sorry
theorem tie_wanted (u : ScT) (v : SmT) (p0 : Int32) (hSim : Sim u v) : f_X3_wanted u p0 = (f_X4_wanted v p0).1 ∧ Sim u (f_X4_wanted v p0).2 := by
  sorry
theorem tie_finish (u : ScT) (v : SmT) (z : Nat → Int64) (p0 : Int32) (p1 : Int64) (hSim : Sim u v) : f_X4_thrown (f_X4_finish v p0 p1).2 = (h_finish u z p0 p1).1 ∧ ((h_finish u z p0 p1).1 = 0 → (h_finish u z p0 p1).2.2 ((0 : Int32).toNatClampNeg) = (f_X4_finish v p0 p1).1.toInt64) ∧ Sim (h_finish u z p0 p1).2.1 (f_X4_finish v p0 p1).2 := by
  sorry
theorem tie_done (u : ScT) (v : SmT) (hSim : Sim u v) : f_X3_done u = (f_X4_done v).1 ∧ Sim u (f_X4_done v).2 := by
  sorry
