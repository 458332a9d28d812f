abbrev V1 (v : SmT) (w L : Int32) : SmT := sm8 (sm7 (sm6 (sm5 (sm4 (sm0 v (0 : Int32)) w) L) (v.2.1 (f_X2_a w).toNatClampNeg)) (v.2.1 (f_X2_b w).toNatClampNeg)) (-1 : Int32)
theorem run_mid {u : ScT} {v : SmT} (hSim : Sim u v) (w L : Int32) : Mid (sc4 (sc3 u L) (0 : Int32)) (V1 v w L) w := by
  obtain ⟨h1, h2, h3, h4, h5⟩ := hSim
  refine ⟨h1, h2, h3, h4, rfl, rfl, rfl, rfl, ?_, ?_, rfl⟩
  · show v.2.1 (f_X2_a w).toNatClampNeg = f_X3_held _ (f_X2_a w)
    rw [held_in _ _ (bd_a w)]
    show v.2.1 (f_X2_a w).toNatClampNeg = u.1 (f_X2_a w).toNatClampNeg
    rw [h1]
  · show v.2.1 (f_X2_b w).toNatClampNeg = f_X3_held _ (f_X2_b w)
    rw [held_in _ _ (bd_b w)]
    show v.2.1 (f_X2_b w).toNatClampNeg = u.1 (f_X2_b w).toNatClampNeg
    rw [h1]
theorem oth_47 (v : SmT) (d f : Int32) : f_X4_others v 47 d f = f_X4_atomic v d f := by
  unfold f_X4_others
  simp only [if_true, if_false, if_neg (show ¬ (47 : Int32) = (3 : Int32) by decide), if_neg (show ¬ (47 : Int32) = (7 : Int32) by decide), if_neg (show ¬ (47 : Int32) = (15 : Int32) by decide), if_neg (show ¬ (47 : Int32) = (35 : Int32) by decide), if_neg (show ¬ (47 : Int32) = (39 : Int32) by decide), if_pos (show (47 : Int32) = (47 : Int32) from rfl), if_neg (show ¬ (47 : Int32) = (67 : Int32) by decide), if_neg (show ¬ (47 : Int32) = (71 : Int32) by decide), if_neg (show ¬ (47 : Int32) = (75 : Int32) by decide), if_neg (show ¬ (47 : Int32) = (79 : Int32) by decide), if_neg (show ¬ (47 : Int32) = (83 : Int32) by decide), if_neg (show ¬ (47 : Int32) = (115 : Int32) by decide)]
theorem oth_115 (v : SmT) (d f : Int32) : f_X4_others v 115 d f = f_X4_control v d f := by
  unfold f_X4_others
  simp only [if_true, if_false, if_neg (show ¬ (115 : Int32) = (3 : Int32) by decide), if_neg (show ¬ (115 : Int32) = (7 : Int32) by decide), if_neg (show ¬ (115 : Int32) = (15 : Int32) by decide), if_neg (show ¬ (115 : Int32) = (35 : Int32) by decide), if_neg (show ¬ (115 : Int32) = (39 : Int32) by decide), if_neg (show ¬ (115 : Int32) = (47 : Int32) by decide), if_neg (show ¬ (115 : Int32) = (67 : Int32) by decide), if_neg (show ¬ (115 : Int32) = (71 : Int32) by decide), if_neg (show ¬ (115 : Int32) = (75 : Int32) by decide), if_neg (show ¬ (115 : Int32) = (79 : Int32) by decide), if_neg (show ¬ (115 : Int32) = (83 : Int32) by decide), if_pos (show (115 : Int32) = (115 : Int32) from rfl)]
theorem oth_67 (v : SmT) (d f : Int32) : f_X4_others v 67 d f = f_X4_want v (5 : Int32) (0 : Int64) (0 : Int64) v.2.2.2.2.2.2.1 (67 : Int32).toInt64 d := by
  unfold f_X4_others
  simp only [if_true, if_false, if_neg (show ¬ (67 : Int32) = (3 : Int32) by decide), if_neg (show ¬ (67 : Int32) = (7 : Int32) by decide), if_neg (show ¬ (67 : Int32) = (15 : Int32) by decide), if_neg (show ¬ (67 : Int32) = (35 : Int32) by decide), if_neg (show ¬ (67 : Int32) = (39 : Int32) by decide), if_neg (show ¬ (67 : Int32) = (47 : Int32) by decide), if_pos (show (67 : Int32) = (67 : Int32) from rfl), if_neg (show ¬ (67 : Int32) = (71 : Int32) by decide), if_neg (show ¬ (67 : Int32) = (75 : Int32) by decide), if_neg (show ¬ (67 : Int32) = (79 : Int32) by decide), if_neg (show ¬ (67 : Int32) = (83 : Int32) by decide), if_neg (show ¬ (67 : Int32) = (115 : Int32) by decide)]
theorem oth_71 (v : SmT) (d f : Int32) : f_X4_others v 71 d f = f_X4_want v (5 : Int32) (0 : Int64) (0 : Int64) v.2.2.2.2.2.2.1 (71 : Int32).toInt64 d := by
  unfold f_X4_others
  simp only [if_true, if_false, if_neg (show ¬ (71 : Int32) = (3 : Int32) by decide), if_neg (show ¬ (71 : Int32) = (7 : Int32) by decide), if_neg (show ¬ (71 : Int32) = (15 : Int32) by decide), if_neg (show ¬ (71 : Int32) = (35 : Int32) by decide), if_neg (show ¬ (71 : Int32) = (39 : Int32) by decide), if_neg (show ¬ (71 : Int32) = (47 : Int32) by decide), if_neg (show ¬ (71 : Int32) = (67 : Int32) by decide), if_pos (show (71 : Int32) = (71 : Int32) from rfl), if_neg (show ¬ (71 : Int32) = (75 : Int32) by decide), if_neg (show ¬ (71 : Int32) = (79 : Int32) by decide), if_neg (show ¬ (71 : Int32) = (83 : Int32) by decide), if_neg (show ¬ (71 : Int32) = (115 : Int32) by decide)]
theorem oth_75 (v : SmT) (d f : Int32) : f_X4_others v 75 d f = f_X4_want v (5 : Int32) (0 : Int64) (0 : Int64) v.2.2.2.2.2.2.1 (75 : Int32).toInt64 d := by
  unfold f_X4_others
  simp only [if_true, if_false, if_neg (show ¬ (75 : Int32) = (3 : Int32) by decide), if_neg (show ¬ (75 : Int32) = (7 : Int32) by decide), if_neg (show ¬ (75 : Int32) = (15 : Int32) by decide), if_neg (show ¬ (75 : Int32) = (35 : Int32) by decide), if_neg (show ¬ (75 : Int32) = (39 : Int32) by decide), if_neg (show ¬ (75 : Int32) = (47 : Int32) by decide), if_neg (show ¬ (75 : Int32) = (67 : Int32) by decide), if_neg (show ¬ (75 : Int32) = (71 : Int32) by decide), if_pos (show (75 : Int32) = (75 : Int32) from rfl), if_neg (show ¬ (75 : Int32) = (79 : Int32) by decide), if_neg (show ¬ (75 : Int32) = (83 : Int32) by decide), if_neg (show ¬ (75 : Int32) = (115 : Int32) by decide)]
theorem oth_79 (v : SmT) (d f : Int32) : f_X4_others v 79 d f = f_X4_want v (5 : Int32) (0 : Int64) (0 : Int64) v.2.2.2.2.2.2.1 (79 : Int32).toInt64 d := by
  unfold f_X4_others
  simp only [if_true, if_false, if_neg (show ¬ (79 : Int32) = (3 : Int32) by decide), if_neg (show ¬ (79 : Int32) = (7 : Int32) by decide), if_neg (show ¬ (79 : Int32) = (15 : Int32) by decide), if_neg (show ¬ (79 : Int32) = (35 : Int32) by decide), if_neg (show ¬ (79 : Int32) = (39 : Int32) by decide), if_neg (show ¬ (79 : Int32) = (47 : Int32) by decide), if_neg (show ¬ (79 : Int32) = (67 : Int32) by decide), if_neg (show ¬ (79 : Int32) = (71 : Int32) by decide), if_neg (show ¬ (79 : Int32) = (75 : Int32) by decide), if_pos (show (79 : Int32) = (79 : Int32) from rfl), if_neg (show ¬ (79 : Int32) = (83 : Int32) by decide), if_neg (show ¬ (79 : Int32) = (115 : Int32) by decide)]
theorem oth_83 (v : SmT) (d f : Int32) : f_X4_others v 83 d f = f_X4_want v (5 : Int32) (0 : Int64) (0 : Int64) v.2.2.2.2.2.2.1 (83 : Int32).toInt64 d := by
  unfold f_X4_others
  simp only [if_true, if_false, if_neg (show ¬ (83 : Int32) = (3 : Int32) by decide), if_neg (show ¬ (83 : Int32) = (7 : Int32) by decide), if_neg (show ¬ (83 : Int32) = (15 : Int32) by decide), if_neg (show ¬ (83 : Int32) = (35 : Int32) by decide), if_neg (show ¬ (83 : Int32) = (39 : Int32) by decide), if_neg (show ¬ (83 : Int32) = (47 : Int32) by decide), if_neg (show ¬ (83 : Int32) = (67 : Int32) by decide), if_neg (show ¬ (83 : Int32) = (71 : Int32) by decide), if_neg (show ¬ (83 : Int32) = (75 : Int32) by decide), if_neg (show ¬ (83 : Int32) = (79 : Int32) by decide), if_pos (show (83 : Int32) = (83 : Int32) from rfl), if_neg (show ¬ (83 : Int32) = (115 : Int32) by decide)]
theorem oth_no (v : SmT) (k d f : Int32) (n3 : ¬ k = (3 : Int32)) (n7 : ¬ k = (7 : Int32)) (n15 : ¬ k = (15 : Int32)) (n35 : ¬ k = (35 : Int32)) (n39 : ¬ k = (39 : Int32)) (n47 : ¬ k = (47 : Int32)) (n67 : ¬ k = (67 : Int32)) (n71 : ¬ k = (71 : Int32)) (n75 : ¬ k = (75 : Int32)) (n79 : ¬ k = (79 : Int32)) (n83 : ¬ k = (83 : Int32)) (n115 : ¬ k = (115 : Int32)) : f_X4_others v k d f = ((-1 : Int32), v) := by
  unfold f_X4_others
  simp only [if_neg n3, if_neg n7, if_neg n15, if_neg n35, if_neg n39, if_neg n47, if_neg n67, if_neg n71, if_neg n75, if_neg n79, if_neg n83, if_neg n115]
set_option maxHeartbeats 4000000 in
theorem run_out {u : ScT} {v : SmT} (hSim : Sim u v) (w L : Int32) (hL : L = 2 ∨ L = 4) : Out (f_X3_run u w L) (f_X4_run v w L) := by
  have m := run_mid hSim w L
  have h2 : u.2.1 = v.2.2.1 := hSim.2.1
  have hx : (V1 v w L).2.2.2.2.2.2.1 = f_X3_x (sc4 (sc3 u L) (0 : Int32)) w := m.2.2.2.2.2.2.2.2.1
  have hb : v.2.2.1 + L.toInt64 = u.2.1 + L.toInt64 := by rw [h2]
  unfold f_X3_run f_X4_run
  rw [cm_code w (sm8 (sm5 (sm4 (sm0 v (0 : Int32)) w) L) (-1 : Int32)) rfl, cm_d w (sm8 (sm5 (sm4 (sm0 v (0 : Int32)) w) L) (-1 : Int32)) rfl, cm_f w (sm8 (sm5 (sm4 (sm0 v (0 : Int32)) w) L) (-1 : Int32)) rfl, cm_g w (sm8 (sm5 (sm4 (sm0 v (0 : Int32)) w) L) (-1 : Int32)) rfl, cm_a w (sm8 (sm5 (sm4 (sm0 v (0 : Int32)) w) L) (-1 : Int32)) rfl, cm_b w (sm8 (sm6 (sm5 (sm4 (sm0 v (0 : Int32)) w) L) (v.2.1 (f_X2_a w).toNatClampNeg)) (-1 : Int32)) rfl]
  have hLL : ∀ (r1 r2 : Int32 × ScT) (q1 q2 : Int32 × SmT), r1 = r2 → q1 = q2 → Out r1 q1 → ∀ (r3 : Int32 × ScT) (q3 : Int32 × SmT), Out (if L = (2 : Int32) then r1 else if L = (4 : Int32) then r2 else r3) (if L = (2 : Int32) then q1 else if L = (4 : Int32) then q2 else q3) := by
    intro r1 r2 q1 q2 e1 e2 k r3 q3
    subst e1 e2
    rcases hL with h | h
    · rw [if_pos h, if_pos h]; exact k
    · have n : ¬ L = (2 : Int32) := by rw [h]; decide
      rw [if_neg n, if_neg n, if_pos h, if_pos h]; exact k
  refine hLL _ _ _ _ rfl rfl ?_ _ _
  by_cases c : f_X2_code w = (3 : Int32)
  · simp only [if_true, if_false, if_pos c, if_neg (show ¬ f_X2_code w = (7 : Int32) by rw [c]; decide), if_neg (show ¬ f_X2_code w = (15 : Int32) by rw [c]; decide), if_neg (show ¬ f_X2_code w = (19 : Int32) by rw [c]; decide), if_neg (show ¬ f_X2_code w = (23 : Int32) by rw [c]; decide), if_neg (show ¬ f_X2_code w = (27 : Int32) by rw [c]; decide), if_neg (show ¬ f_X2_code w = (35 : Int32) by rw [c]; decide), if_neg (show ¬ f_X2_code w = (39 : Int32) by rw [c]; decide), if_neg (show ¬ f_X2_code w = (47 : Int32) by rw [c]; decide), if_neg (show ¬ f_X2_code w = (51 : Int32) by rw [c]; decide), if_neg (show ¬ f_X2_code w = (55 : Int32) by rw [c]; decide), if_neg (show ¬ f_X2_code w = (59 : Int32) by rw [c]; decide), if_neg (show ¬ f_X2_code w = (67 : Int32) by rw [c]; decide), if_neg (show ¬ f_X2_code w = (71 : Int32) by rw [c]; decide), if_neg (show ¬ f_X2_code w = (75 : Int32) by rw [c]; decide), if_neg (show ¬ f_X2_code w = (79 : Int32) by rw [c]; decide), if_neg (show ¬ f_X2_code w = (83 : Int32) by rw [c]; decide), if_neg (show ¬ f_X2_code w = (99 : Int32) by rw [c]; decide), if_neg (show ¬ f_X2_code w = (103 : Int32) by rw [c]; decide), if_neg (show ¬ f_X2_code w = (111 : Int32) by rw [c]; decide), if_neg (show ¬ f_X2_code w = (115 : Int32) by rw [c]; decide)]
    rw [c]
    exact op_3 m rfl rfl
  have n3 := c
  clear c
  by_cases c : f_X2_code w = (7 : Int32)
  · simp only [if_true, if_false, if_neg (show ¬ f_X2_code w = (3 : Int32) by rw [c]; decide), if_pos c, if_neg (show ¬ f_X2_code w = (15 : Int32) by rw [c]; decide), if_neg (show ¬ f_X2_code w = (19 : Int32) by rw [c]; decide), if_neg (show ¬ f_X2_code w = (23 : Int32) by rw [c]; decide), if_neg (show ¬ f_X2_code w = (27 : Int32) by rw [c]; decide), if_neg (show ¬ f_X2_code w = (35 : Int32) by rw [c]; decide), if_neg (show ¬ f_X2_code w = (39 : Int32) by rw [c]; decide), if_neg (show ¬ f_X2_code w = (47 : Int32) by rw [c]; decide), if_neg (show ¬ f_X2_code w = (51 : Int32) by rw [c]; decide), if_neg (show ¬ f_X2_code w = (55 : Int32) by rw [c]; decide), if_neg (show ¬ f_X2_code w = (59 : Int32) by rw [c]; decide), if_neg (show ¬ f_X2_code w = (67 : Int32) by rw [c]; decide), if_neg (show ¬ f_X2_code w = (71 : Int32) by rw [c]; decide), if_neg (show ¬ f_X2_code w = (75 : Int32) by rw [c]; decide), if_neg (show ¬ f_X2_code w = (79 : Int32) by rw [c]; decide), if_neg (show ¬ f_X2_code w = (83 : Int32) by rw [c]; decide), if_neg (show ¬ f_X2_code w = (99 : Int32) by rw [c]; decide), if_neg (show ¬ f_X2_code w = (103 : Int32) by rw [c]; decide), if_neg (show ¬ f_X2_code w = (111 : Int32) by rw [c]; decide), if_neg (show ¬ f_X2_code w = (115 : Int32) by rw [c]; decide)]
    rw [c]
    exact op_7 m rfl rfl c
  have n7 := c
  clear c
  by_cases c : f_X2_code w = (15 : Int32)
  · simp only [if_true, if_false, if_neg (show ¬ f_X2_code w = (3 : Int32) by rw [c]; decide), if_neg (show ¬ f_X2_code w = (7 : Int32) by rw [c]; decide), if_pos c, if_neg (show ¬ f_X2_code w = (19 : Int32) by rw [c]; decide), if_neg (show ¬ f_X2_code w = (23 : Int32) by rw [c]; decide), if_neg (show ¬ f_X2_code w = (27 : Int32) by rw [c]; decide), if_neg (show ¬ f_X2_code w = (35 : Int32) by rw [c]; decide), if_neg (show ¬ f_X2_code w = (39 : Int32) by rw [c]; decide), if_neg (show ¬ f_X2_code w = (47 : Int32) by rw [c]; decide), if_neg (show ¬ f_X2_code w = (51 : Int32) by rw [c]; decide), if_neg (show ¬ f_X2_code w = (55 : Int32) by rw [c]; decide), if_neg (show ¬ f_X2_code w = (59 : Int32) by rw [c]; decide), if_neg (show ¬ f_X2_code w = (67 : Int32) by rw [c]; decide), if_neg (show ¬ f_X2_code w = (71 : Int32) by rw [c]; decide), if_neg (show ¬ f_X2_code w = (75 : Int32) by rw [c]; decide), if_neg (show ¬ f_X2_code w = (79 : Int32) by rw [c]; decide), if_neg (show ¬ f_X2_code w = (83 : Int32) by rw [c]; decide), if_neg (show ¬ f_X2_code w = (99 : Int32) by rw [c]; decide), if_neg (show ¬ f_X2_code w = (103 : Int32) by rw [c]; decide), if_neg (show ¬ f_X2_code w = (111 : Int32) by rw [c]; decide), if_neg (show ¬ f_X2_code w = (115 : Int32) by rw [c]; decide)]
    rw [c]
    exact op_15 (d := f_X2_d w) m rfl
  have n15 := c
  clear c
  by_cases c : f_X2_code w = (19 : Int32)
  · simp only [if_true, if_false, if_neg (show ¬ f_X2_code w = (3 : Int32) by rw [c]; decide), if_neg (show ¬ f_X2_code w = (7 : Int32) by rw [c]; decide), if_neg (show ¬ f_X2_code w = (15 : Int32) by rw [c]; decide), if_pos c, if_neg (show ¬ f_X2_code w = (23 : Int32) by rw [c]; decide), if_neg (show ¬ f_X2_code w = (27 : Int32) by rw [c]; decide), if_neg (show ¬ f_X2_code w = (35 : Int32) by rw [c]; decide), if_neg (show ¬ f_X2_code w = (39 : Int32) by rw [c]; decide), if_neg (show ¬ f_X2_code w = (47 : Int32) by rw [c]; decide), if_neg (show ¬ f_X2_code w = (51 : Int32) by rw [c]; decide), if_neg (show ¬ f_X2_code w = (55 : Int32) by rw [c]; decide), if_neg (show ¬ f_X2_code w = (59 : Int32) by rw [c]; decide), if_neg (show ¬ f_X2_code w = (67 : Int32) by rw [c]; decide), if_neg (show ¬ f_X2_code w = (71 : Int32) by rw [c]; decide), if_neg (show ¬ f_X2_code w = (75 : Int32) by rw [c]; decide), if_neg (show ¬ f_X2_code w = (79 : Int32) by rw [c]; decide), if_neg (show ¬ f_X2_code w = (83 : Int32) by rw [c]; decide), if_neg (show ¬ f_X2_code w = (99 : Int32) by rw [c]; decide), if_neg (show ¬ f_X2_code w = (103 : Int32) by rw [c]; decide), if_neg (show ¬ f_X2_code w = (111 : Int32) by rw [c]; decide), if_neg (show ¬ f_X2_code w = (115 : Int32) by rw [c]; decide)]
    exact op_19 m rfl rfl
  have n19 := c
  clear c
  by_cases c : f_X2_code w = (23 : Int32)
  · simp only [if_true, if_false, if_neg (show ¬ f_X2_code w = (3 : Int32) by rw [c]; decide), if_neg (show ¬ f_X2_code w = (7 : Int32) by rw [c]; decide), if_neg (show ¬ f_X2_code w = (15 : Int32) by rw [c]; decide), if_neg (show ¬ f_X2_code w = (19 : Int32) by rw [c]; decide), if_pos c, if_neg (show ¬ f_X2_code w = (27 : Int32) by rw [c]; decide), if_neg (show ¬ f_X2_code w = (35 : Int32) by rw [c]; decide), if_neg (show ¬ f_X2_code w = (39 : Int32) by rw [c]; decide), if_neg (show ¬ f_X2_code w = (47 : Int32) by rw [c]; decide), if_neg (show ¬ f_X2_code w = (51 : Int32) by rw [c]; decide), if_neg (show ¬ f_X2_code w = (55 : Int32) by rw [c]; decide), if_neg (show ¬ f_X2_code w = (59 : Int32) by rw [c]; decide), if_neg (show ¬ f_X2_code w = (67 : Int32) by rw [c]; decide), if_neg (show ¬ f_X2_code w = (71 : Int32) by rw [c]; decide), if_neg (show ¬ f_X2_code w = (75 : Int32) by rw [c]; decide), if_neg (show ¬ f_X2_code w = (79 : Int32) by rw [c]; decide), if_neg (show ¬ f_X2_code w = (83 : Int32) by rw [c]; decide), if_neg (show ¬ f_X2_code w = (99 : Int32) by rw [c]; decide), if_neg (show ¬ f_X2_code w = (103 : Int32) by rw [c]; decide), if_neg (show ¬ f_X2_code w = (111 : Int32) by rw [c]; decide), if_neg (show ¬ f_X2_code w = (115 : Int32) by rw [c]; decide)]
    refine out_done m ?_ rfl
    show u.2.1 + _ = v.2.2.1 + _
    rw [h2, im_U _ w rfl]
  have n23 := c
  clear c
  by_cases c : f_X2_code w = (27 : Int32)
  · simp only [if_true, if_false, if_neg (show ¬ f_X2_code w = (3 : Int32) by rw [c]; decide), if_neg (show ¬ f_X2_code w = (7 : Int32) by rw [c]; decide), if_neg (show ¬ f_X2_code w = (15 : Int32) by rw [c]; decide), if_neg (show ¬ f_X2_code w = (19 : Int32) by rw [c]; decide), if_neg (show ¬ f_X2_code w = (23 : Int32) by rw [c]; decide), if_pos c, if_neg (show ¬ f_X2_code w = (35 : Int32) by rw [c]; decide), if_neg (show ¬ f_X2_code w = (39 : Int32) by rw [c]; decide), if_neg (show ¬ f_X2_code w = (47 : Int32) by rw [c]; decide), if_neg (show ¬ f_X2_code w = (51 : Int32) by rw [c]; decide), if_neg (show ¬ f_X2_code w = (55 : Int32) by rw [c]; decide), if_neg (show ¬ f_X2_code w = (59 : Int32) by rw [c]; decide), if_neg (show ¬ f_X2_code w = (67 : Int32) by rw [c]; decide), if_neg (show ¬ f_X2_code w = (71 : Int32) by rw [c]; decide), if_neg (show ¬ f_X2_code w = (75 : Int32) by rw [c]; decide), if_neg (show ¬ f_X2_code w = (79 : Int32) by rw [c]; decide), if_neg (show ¬ f_X2_code w = (83 : Int32) by rw [c]; decide), if_neg (show ¬ f_X2_code w = (99 : Int32) by rw [c]; decide), if_neg (show ¬ f_X2_code w = (103 : Int32) by rw [c]; decide), if_neg (show ¬ f_X2_code w = (111 : Int32) by rw [c]; decide), if_neg (show ¬ f_X2_code w = (115 : Int32) by rw [c]; decide)]
    exact op_27 m rfl rfl rfl
  have n27 := c
  clear c
  by_cases c : f_X2_code w = (35 : Int32)
  · simp only [if_true, if_false, if_neg (show ¬ f_X2_code w = (3 : Int32) by rw [c]; decide), if_neg (show ¬ f_X2_code w = (7 : Int32) by rw [c]; decide), if_neg (show ¬ f_X2_code w = (15 : Int32) by rw [c]; decide), if_neg (show ¬ f_X2_code w = (19 : Int32) by rw [c]; decide), if_neg (show ¬ f_X2_code w = (23 : Int32) by rw [c]; decide), if_neg (show ¬ f_X2_code w = (27 : Int32) by rw [c]; decide), if_pos c, if_neg (show ¬ f_X2_code w = (39 : Int32) by rw [c]; decide), if_neg (show ¬ f_X2_code w = (47 : Int32) by rw [c]; decide), if_neg (show ¬ f_X2_code w = (51 : Int32) by rw [c]; decide), if_neg (show ¬ f_X2_code w = (55 : Int32) by rw [c]; decide), if_neg (show ¬ f_X2_code w = (59 : Int32) by rw [c]; decide), if_neg (show ¬ f_X2_code w = (67 : Int32) by rw [c]; decide), if_neg (show ¬ f_X2_code w = (71 : Int32) by rw [c]; decide), if_neg (show ¬ f_X2_code w = (75 : Int32) by rw [c]; decide), if_neg (show ¬ f_X2_code w = (79 : Int32) by rw [c]; decide), if_neg (show ¬ f_X2_code w = (83 : Int32) by rw [c]; decide), if_neg (show ¬ f_X2_code w = (99 : Int32) by rw [c]; decide), if_neg (show ¬ f_X2_code w = (103 : Int32) by rw [c]; decide), if_neg (show ¬ f_X2_code w = (111 : Int32) by rw [c]; decide), if_neg (show ¬ f_X2_code w = (115 : Int32) by rw [c]; decide)]
    rw [c]
    exact op_35 (d := f_X2_d w) m rfl
  have n35 := c
  clear c
  by_cases c : f_X2_code w = (39 : Int32)
  · simp only [if_true, if_false, if_neg (show ¬ f_X2_code w = (3 : Int32) by rw [c]; decide), if_neg (show ¬ f_X2_code w = (7 : Int32) by rw [c]; decide), if_neg (show ¬ f_X2_code w = (15 : Int32) by rw [c]; decide), if_neg (show ¬ f_X2_code w = (19 : Int32) by rw [c]; decide), if_neg (show ¬ f_X2_code w = (23 : Int32) by rw [c]; decide), if_neg (show ¬ f_X2_code w = (27 : Int32) by rw [c]; decide), if_neg (show ¬ f_X2_code w = (35 : Int32) by rw [c]; decide), if_pos c, if_neg (show ¬ f_X2_code w = (47 : Int32) by rw [c]; decide), if_neg (show ¬ f_X2_code w = (51 : Int32) by rw [c]; decide), if_neg (show ¬ f_X2_code w = (55 : Int32) by rw [c]; decide), if_neg (show ¬ f_X2_code w = (59 : Int32) by rw [c]; decide), if_neg (show ¬ f_X2_code w = (67 : Int32) by rw [c]; decide), if_neg (show ¬ f_X2_code w = (71 : Int32) by rw [c]; decide), if_neg (show ¬ f_X2_code w = (75 : Int32) by rw [c]; decide), if_neg (show ¬ f_X2_code w = (79 : Int32) by rw [c]; decide), if_neg (show ¬ f_X2_code w = (83 : Int32) by rw [c]; decide), if_neg (show ¬ f_X2_code w = (99 : Int32) by rw [c]; decide), if_neg (show ¬ f_X2_code w = (103 : Int32) by rw [c]; decide), if_neg (show ¬ f_X2_code w = (111 : Int32) by rw [c]; decide), if_neg (show ¬ f_X2_code w = (115 : Int32) by rw [c]; decide)]
    rw [c]
    exact op_39 m rfl rfl c
  have n39 := c
  clear c
  by_cases c : f_X2_code w = (47 : Int32)
  · simp only [if_true, if_false, if_neg (show ¬ f_X2_code w = (3 : Int32) by rw [c]; decide), if_neg (show ¬ f_X2_code w = (7 : Int32) by rw [c]; decide), if_neg (show ¬ f_X2_code w = (15 : Int32) by rw [c]; decide), if_neg (show ¬ f_X2_code w = (19 : Int32) by rw [c]; decide), if_neg (show ¬ f_X2_code w = (23 : Int32) by rw [c]; decide), if_neg (show ¬ f_X2_code w = (27 : Int32) by rw [c]; decide), if_neg (show ¬ f_X2_code w = (35 : Int32) by rw [c]; decide), if_neg (show ¬ f_X2_code w = (39 : Int32) by rw [c]; decide), if_pos c, if_neg (show ¬ f_X2_code w = (51 : Int32) by rw [c]; decide), if_neg (show ¬ f_X2_code w = (55 : Int32) by rw [c]; decide), if_neg (show ¬ f_X2_code w = (59 : Int32) by rw [c]; decide), if_neg (show ¬ f_X2_code w = (67 : Int32) by rw [c]; decide), if_neg (show ¬ f_X2_code w = (71 : Int32) by rw [c]; decide), if_neg (show ¬ f_X2_code w = (75 : Int32) by rw [c]; decide), if_neg (show ¬ f_X2_code w = (79 : Int32) by rw [c]; decide), if_neg (show ¬ f_X2_code w = (83 : Int32) by rw [c]; decide), if_neg (show ¬ f_X2_code w = (99 : Int32) by rw [c]; decide), if_neg (show ¬ f_X2_code w = (103 : Int32) by rw [c]; decide), if_neg (show ¬ f_X2_code w = (111 : Int32) by rw [c]; decide), if_neg (show ¬ f_X2_code w = (115 : Int32) by rw [c]; decide)]
    rw [c, oth_47]
    exact op_47 m rfl rfl
  have n47 := c
  clear c
  by_cases c : f_X2_code w = (51 : Int32)
  · simp only [if_true, if_false, if_neg (show ¬ f_X2_code w = (3 : Int32) by rw [c]; decide), if_neg (show ¬ f_X2_code w = (7 : Int32) by rw [c]; decide), if_neg (show ¬ f_X2_code w = (15 : Int32) by rw [c]; decide), if_neg (show ¬ f_X2_code w = (19 : Int32) by rw [c]; decide), if_neg (show ¬ f_X2_code w = (23 : Int32) by rw [c]; decide), if_neg (show ¬ f_X2_code w = (27 : Int32) by rw [c]; decide), if_neg (show ¬ f_X2_code w = (35 : Int32) by rw [c]; decide), if_neg (show ¬ f_X2_code w = (39 : Int32) by rw [c]; decide), if_neg (show ¬ f_X2_code w = (47 : Int32) by rw [c]; decide), if_pos c, if_neg (show ¬ f_X2_code w = (55 : Int32) by rw [c]; decide), if_neg (show ¬ f_X2_code w = (59 : Int32) by rw [c]; decide), if_neg (show ¬ f_X2_code w = (67 : Int32) by rw [c]; decide), if_neg (show ¬ f_X2_code w = (71 : Int32) by rw [c]; decide), if_neg (show ¬ f_X2_code w = (75 : Int32) by rw [c]; decide), if_neg (show ¬ f_X2_code w = (79 : Int32) by rw [c]; decide), if_neg (show ¬ f_X2_code w = (83 : Int32) by rw [c]; decide), if_neg (show ¬ f_X2_code w = (99 : Int32) by rw [c]; decide), if_neg (show ¬ f_X2_code w = (103 : Int32) by rw [c]; decide), if_neg (show ¬ f_X2_code w = (111 : Int32) by rw [c]; decide), if_neg (show ¬ f_X2_code w = (115 : Int32) by rw [c]; decide)]
    exact op_51 m rfl rfl rfl
  have n51 := c
  clear c
  by_cases c : f_X2_code w = (55 : Int32)
  · simp only [if_true, if_false, if_neg (show ¬ f_X2_code w = (3 : Int32) by rw [c]; decide), if_neg (show ¬ f_X2_code w = (7 : Int32) by rw [c]; decide), if_neg (show ¬ f_X2_code w = (15 : Int32) by rw [c]; decide), if_neg (show ¬ f_X2_code w = (19 : Int32) by rw [c]; decide), if_neg (show ¬ f_X2_code w = (23 : Int32) by rw [c]; decide), if_neg (show ¬ f_X2_code w = (27 : Int32) by rw [c]; decide), if_neg (show ¬ f_X2_code w = (35 : Int32) by rw [c]; decide), if_neg (show ¬ f_X2_code w = (39 : Int32) by rw [c]; decide), if_neg (show ¬ f_X2_code w = (47 : Int32) by rw [c]; decide), if_neg (show ¬ f_X2_code w = (51 : Int32) by rw [c]; decide), if_pos c, if_neg (show ¬ f_X2_code w = (59 : Int32) by rw [c]; decide), if_neg (show ¬ f_X2_code w = (67 : Int32) by rw [c]; decide), if_neg (show ¬ f_X2_code w = (71 : Int32) by rw [c]; decide), if_neg (show ¬ f_X2_code w = (75 : Int32) by rw [c]; decide), if_neg (show ¬ f_X2_code w = (79 : Int32) by rw [c]; decide), if_neg (show ¬ f_X2_code w = (83 : Int32) by rw [c]; decide), if_neg (show ¬ f_X2_code w = (99 : Int32) by rw [c]; decide), if_neg (show ¬ f_X2_code w = (103 : Int32) by rw [c]; decide), if_neg (show ¬ f_X2_code w = (111 : Int32) by rw [c]; decide), if_neg (show ¬ f_X2_code w = (115 : Int32) by rw [c]; decide)]
    refine out_done m ?_ rfl
    rw [im_U _ w rfl]
  have n55 := c
  clear c
  by_cases c : f_X2_code w = (59 : Int32)
  · simp only [if_true, if_false, if_neg (show ¬ f_X2_code w = (3 : Int32) by rw [c]; decide), if_neg (show ¬ f_X2_code w = (7 : Int32) by rw [c]; decide), if_neg (show ¬ f_X2_code w = (15 : Int32) by rw [c]; decide), if_neg (show ¬ f_X2_code w = (19 : Int32) by rw [c]; decide), if_neg (show ¬ f_X2_code w = (23 : Int32) by rw [c]; decide), if_neg (show ¬ f_X2_code w = (27 : Int32) by rw [c]; decide), if_neg (show ¬ f_X2_code w = (35 : Int32) by rw [c]; decide), if_neg (show ¬ f_X2_code w = (39 : Int32) by rw [c]; decide), if_neg (show ¬ f_X2_code w = (47 : Int32) by rw [c]; decide), if_neg (show ¬ f_X2_code w = (51 : Int32) by rw [c]; decide), if_neg (show ¬ f_X2_code w = (55 : Int32) by rw [c]; decide), if_pos c, if_neg (show ¬ f_X2_code w = (67 : Int32) by rw [c]; decide), if_neg (show ¬ f_X2_code w = (71 : Int32) by rw [c]; decide), if_neg (show ¬ f_X2_code w = (75 : Int32) by rw [c]; decide), if_neg (show ¬ f_X2_code w = (79 : Int32) by rw [c]; decide), if_neg (show ¬ f_X2_code w = (83 : Int32) by rw [c]; decide), if_neg (show ¬ f_X2_code w = (99 : Int32) by rw [c]; decide), if_neg (show ¬ f_X2_code w = (103 : Int32) by rw [c]; decide), if_neg (show ¬ f_X2_code w = (111 : Int32) by rw [c]; decide), if_neg (show ¬ f_X2_code w = (115 : Int32) by rw [c]; decide)]
    exact op_59 m rfl rfl rfl
  have n59 := c
  clear c
  by_cases c : f_X2_code w = (67 : Int32)
  · simp only [if_true, if_false, if_neg (show ¬ f_X2_code w = (3 : Int32) by rw [c]; decide), if_neg (show ¬ f_X2_code w = (7 : Int32) by rw [c]; decide), if_neg (show ¬ f_X2_code w = (15 : Int32) by rw [c]; decide), if_neg (show ¬ f_X2_code w = (19 : Int32) by rw [c]; decide), if_neg (show ¬ f_X2_code w = (23 : Int32) by rw [c]; decide), if_neg (show ¬ f_X2_code w = (27 : Int32) by rw [c]; decide), if_neg (show ¬ f_X2_code w = (35 : Int32) by rw [c]; decide), if_neg (show ¬ f_X2_code w = (39 : Int32) by rw [c]; decide), if_neg (show ¬ f_X2_code w = (47 : Int32) by rw [c]; decide), if_neg (show ¬ f_X2_code w = (51 : Int32) by rw [c]; decide), if_neg (show ¬ f_X2_code w = (55 : Int32) by rw [c]; decide), if_neg (show ¬ f_X2_code w = (59 : Int32) by rw [c]; decide), if_pos c, if_neg (show ¬ f_X2_code w = (71 : Int32) by rw [c]; decide), if_neg (show ¬ f_X2_code w = (75 : Int32) by rw [c]; decide), if_neg (show ¬ f_X2_code w = (79 : Int32) by rw [c]; decide), if_neg (show ¬ f_X2_code w = (83 : Int32) by rw [c]; decide), if_neg (show ¬ f_X2_code w = (99 : Int32) by rw [c]; decide), if_neg (show ¬ f_X2_code w = (103 : Int32) by rw [c]; decide), if_neg (show ¬ f_X2_code w = (111 : Int32) by rw [c]; decide), if_neg (show ¬ f_X2_code w = (115 : Int32) by rw [c]; decide)]
    rw [c, oth_67]
    exact out_want m 5 0 rfl 0 rfl _ hx _ rfl _ rfl (Or.inr (Or.inr (Or.inr (Or.inl rfl)))) (d_ge w) (d_le w) (fun h => absurd h (by decide)) (fun h => absurd h (by decide))
  have n67 := c
  clear c
  by_cases c : f_X2_code w = (71 : Int32)
  · simp only [if_true, if_false, if_neg (show ¬ f_X2_code w = (3 : Int32) by rw [c]; decide), if_neg (show ¬ f_X2_code w = (7 : Int32) by rw [c]; decide), if_neg (show ¬ f_X2_code w = (15 : Int32) by rw [c]; decide), if_neg (show ¬ f_X2_code w = (19 : Int32) by rw [c]; decide), if_neg (show ¬ f_X2_code w = (23 : Int32) by rw [c]; decide), if_neg (show ¬ f_X2_code w = (27 : Int32) by rw [c]; decide), if_neg (show ¬ f_X2_code w = (35 : Int32) by rw [c]; decide), if_neg (show ¬ f_X2_code w = (39 : Int32) by rw [c]; decide), if_neg (show ¬ f_X2_code w = (47 : Int32) by rw [c]; decide), if_neg (show ¬ f_X2_code w = (51 : Int32) by rw [c]; decide), if_neg (show ¬ f_X2_code w = (55 : Int32) by rw [c]; decide), if_neg (show ¬ f_X2_code w = (59 : Int32) by rw [c]; decide), if_neg (show ¬ f_X2_code w = (67 : Int32) by rw [c]; decide), if_pos c, if_neg (show ¬ f_X2_code w = (75 : Int32) by rw [c]; decide), if_neg (show ¬ f_X2_code w = (79 : Int32) by rw [c]; decide), if_neg (show ¬ f_X2_code w = (83 : Int32) by rw [c]; decide), if_neg (show ¬ f_X2_code w = (99 : Int32) by rw [c]; decide), if_neg (show ¬ f_X2_code w = (103 : Int32) by rw [c]; decide), if_neg (show ¬ f_X2_code w = (111 : Int32) by rw [c]; decide), if_neg (show ¬ f_X2_code w = (115 : Int32) by rw [c]; decide)]
    rw [c, oth_71]
    exact out_want m 5 0 rfl 0 rfl _ hx _ rfl _ rfl (Or.inr (Or.inr (Or.inr (Or.inl rfl)))) (d_ge w) (d_le w) (fun h => absurd h (by decide)) (fun h => absurd h (by decide))
  have n71 := c
  clear c
  by_cases c : f_X2_code w = (75 : Int32)
  · simp only [if_true, if_false, if_neg (show ¬ f_X2_code w = (3 : Int32) by rw [c]; decide), if_neg (show ¬ f_X2_code w = (7 : Int32) by rw [c]; decide), if_neg (show ¬ f_X2_code w = (15 : Int32) by rw [c]; decide), if_neg (show ¬ f_X2_code w = (19 : Int32) by rw [c]; decide), if_neg (show ¬ f_X2_code w = (23 : Int32) by rw [c]; decide), if_neg (show ¬ f_X2_code w = (27 : Int32) by rw [c]; decide), if_neg (show ¬ f_X2_code w = (35 : Int32) by rw [c]; decide), if_neg (show ¬ f_X2_code w = (39 : Int32) by rw [c]; decide), if_neg (show ¬ f_X2_code w = (47 : Int32) by rw [c]; decide), if_neg (show ¬ f_X2_code w = (51 : Int32) by rw [c]; decide), if_neg (show ¬ f_X2_code w = (55 : Int32) by rw [c]; decide), if_neg (show ¬ f_X2_code w = (59 : Int32) by rw [c]; decide), if_neg (show ¬ f_X2_code w = (67 : Int32) by rw [c]; decide), if_neg (show ¬ f_X2_code w = (71 : Int32) by rw [c]; decide), if_pos c, if_neg (show ¬ f_X2_code w = (79 : Int32) by rw [c]; decide), if_neg (show ¬ f_X2_code w = (83 : Int32) by rw [c]; decide), if_neg (show ¬ f_X2_code w = (99 : Int32) by rw [c]; decide), if_neg (show ¬ f_X2_code w = (103 : Int32) by rw [c]; decide), if_neg (show ¬ f_X2_code w = (111 : Int32) by rw [c]; decide), if_neg (show ¬ f_X2_code w = (115 : Int32) by rw [c]; decide)]
    rw [c, oth_75]
    exact out_want m 5 0 rfl 0 rfl _ hx _ rfl _ rfl (Or.inr (Or.inr (Or.inr (Or.inl rfl)))) (d_ge w) (d_le w) (fun h => absurd h (by decide)) (fun h => absurd h (by decide))
  have n75 := c
  clear c
  by_cases c : f_X2_code w = (79 : Int32)
  · simp only [if_true, if_false, if_neg (show ¬ f_X2_code w = (3 : Int32) by rw [c]; decide), if_neg (show ¬ f_X2_code w = (7 : Int32) by rw [c]; decide), if_neg (show ¬ f_X2_code w = (15 : Int32) by rw [c]; decide), if_neg (show ¬ f_X2_code w = (19 : Int32) by rw [c]; decide), if_neg (show ¬ f_X2_code w = (23 : Int32) by rw [c]; decide), if_neg (show ¬ f_X2_code w = (27 : Int32) by rw [c]; decide), if_neg (show ¬ f_X2_code w = (35 : Int32) by rw [c]; decide), if_neg (show ¬ f_X2_code w = (39 : Int32) by rw [c]; decide), if_neg (show ¬ f_X2_code w = (47 : Int32) by rw [c]; decide), if_neg (show ¬ f_X2_code w = (51 : Int32) by rw [c]; decide), if_neg (show ¬ f_X2_code w = (55 : Int32) by rw [c]; decide), if_neg (show ¬ f_X2_code w = (59 : Int32) by rw [c]; decide), if_neg (show ¬ f_X2_code w = (67 : Int32) by rw [c]; decide), if_neg (show ¬ f_X2_code w = (71 : Int32) by rw [c]; decide), if_neg (show ¬ f_X2_code w = (75 : Int32) by rw [c]; decide), if_pos c, if_neg (show ¬ f_X2_code w = (83 : Int32) by rw [c]; decide), if_neg (show ¬ f_X2_code w = (99 : Int32) by rw [c]; decide), if_neg (show ¬ f_X2_code w = (103 : Int32) by rw [c]; decide), if_neg (show ¬ f_X2_code w = (111 : Int32) by rw [c]; decide), if_neg (show ¬ f_X2_code w = (115 : Int32) by rw [c]; decide)]
    rw [c, oth_79]
    exact out_want m 5 0 rfl 0 rfl _ hx _ rfl _ rfl (Or.inr (Or.inr (Or.inr (Or.inl rfl)))) (d_ge w) (d_le w) (fun h => absurd h (by decide)) (fun h => absurd h (by decide))
  have n79 := c
  clear c
  by_cases c : f_X2_code w = (83 : Int32)
  · simp only [if_true, if_false, if_neg (show ¬ f_X2_code w = (3 : Int32) by rw [c]; decide), if_neg (show ¬ f_X2_code w = (7 : Int32) by rw [c]; decide), if_neg (show ¬ f_X2_code w = (15 : Int32) by rw [c]; decide), if_neg (show ¬ f_X2_code w = (19 : Int32) by rw [c]; decide), if_neg (show ¬ f_X2_code w = (23 : Int32) by rw [c]; decide), if_neg (show ¬ f_X2_code w = (27 : Int32) by rw [c]; decide), if_neg (show ¬ f_X2_code w = (35 : Int32) by rw [c]; decide), if_neg (show ¬ f_X2_code w = (39 : Int32) by rw [c]; decide), if_neg (show ¬ f_X2_code w = (47 : Int32) by rw [c]; decide), if_neg (show ¬ f_X2_code w = (51 : Int32) by rw [c]; decide), if_neg (show ¬ f_X2_code w = (55 : Int32) by rw [c]; decide), if_neg (show ¬ f_X2_code w = (59 : Int32) by rw [c]; decide), if_neg (show ¬ f_X2_code w = (67 : Int32) by rw [c]; decide), if_neg (show ¬ f_X2_code w = (71 : Int32) by rw [c]; decide), if_neg (show ¬ f_X2_code w = (75 : Int32) by rw [c]; decide), if_neg (show ¬ f_X2_code w = (79 : Int32) by rw [c]; decide), if_pos c, if_neg (show ¬ f_X2_code w = (99 : Int32) by rw [c]; decide), if_neg (show ¬ f_X2_code w = (103 : Int32) by rw [c]; decide), if_neg (show ¬ f_X2_code w = (111 : Int32) by rw [c]; decide), if_neg (show ¬ f_X2_code w = (115 : Int32) by rw [c]; decide)]
    rw [c, oth_83]
    exact out_want m 5 0 rfl 0 rfl _ hx _ rfl _ rfl (Or.inr (Or.inr (Or.inr (Or.inl rfl)))) (d_ge w) (d_le w) (fun h => absurd h (by decide)) (fun h => absurd h (by decide))
  have n83 := c
  clear c
  by_cases c : f_X2_code w = (99 : Int32)
  · simp only [if_true, if_false, if_neg (show ¬ f_X2_code w = (3 : Int32) by rw [c]; decide), if_neg (show ¬ f_X2_code w = (7 : Int32) by rw [c]; decide), if_neg (show ¬ f_X2_code w = (15 : Int32) by rw [c]; decide), if_neg (show ¬ f_X2_code w = (19 : Int32) by rw [c]; decide), if_neg (show ¬ f_X2_code w = (23 : Int32) by rw [c]; decide), if_neg (show ¬ f_X2_code w = (27 : Int32) by rw [c]; decide), if_neg (show ¬ f_X2_code w = (35 : Int32) by rw [c]; decide), if_neg (show ¬ f_X2_code w = (39 : Int32) by rw [c]; decide), if_neg (show ¬ f_X2_code w = (47 : Int32) by rw [c]; decide), if_neg (show ¬ f_X2_code w = (51 : Int32) by rw [c]; decide), if_neg (show ¬ f_X2_code w = (55 : Int32) by rw [c]; decide), if_neg (show ¬ f_X2_code w = (59 : Int32) by rw [c]; decide), if_neg (show ¬ f_X2_code w = (67 : Int32) by rw [c]; decide), if_neg (show ¬ f_X2_code w = (71 : Int32) by rw [c]; decide), if_neg (show ¬ f_X2_code w = (75 : Int32) by rw [c]; decide), if_neg (show ¬ f_X2_code w = (79 : Int32) by rw [c]; decide), if_neg (show ¬ f_X2_code w = (83 : Int32) by rw [c]; decide), if_pos c, if_neg (show ¬ f_X2_code w = (103 : Int32) by rw [c]; decide), if_neg (show ¬ f_X2_code w = (111 : Int32) by rw [c]; decide), if_neg (show ¬ f_X2_code w = (115 : Int32) by rw [c]; decide)]
    exact op_99 m rfl
  have n99 := c
  clear c
  by_cases c : f_X2_code w = (103 : Int32)
  · simp only [if_true, if_false, if_neg (show ¬ f_X2_code w = (3 : Int32) by rw [c]; decide), if_neg (show ¬ f_X2_code w = (7 : Int32) by rw [c]; decide), if_neg (show ¬ f_X2_code w = (15 : Int32) by rw [c]; decide), if_neg (show ¬ f_X2_code w = (19 : Int32) by rw [c]; decide), if_neg (show ¬ f_X2_code w = (23 : Int32) by rw [c]; decide), if_neg (show ¬ f_X2_code w = (27 : Int32) by rw [c]; decide), if_neg (show ¬ f_X2_code w = (35 : Int32) by rw [c]; decide), if_neg (show ¬ f_X2_code w = (39 : Int32) by rw [c]; decide), if_neg (show ¬ f_X2_code w = (47 : Int32) by rw [c]; decide), if_neg (show ¬ f_X2_code w = (51 : Int32) by rw [c]; decide), if_neg (show ¬ f_X2_code w = (55 : Int32) by rw [c]; decide), if_neg (show ¬ f_X2_code w = (59 : Int32) by rw [c]; decide), if_neg (show ¬ f_X2_code w = (67 : Int32) by rw [c]; decide), if_neg (show ¬ f_X2_code w = (71 : Int32) by rw [c]; decide), if_neg (show ¬ f_X2_code w = (75 : Int32) by rw [c]; decide), if_neg (show ¬ f_X2_code w = (79 : Int32) by rw [c]; decide), if_neg (show ¬ f_X2_code w = (83 : Int32) by rw [c]; decide), if_neg (show ¬ f_X2_code w = (99 : Int32) by rw [c]; decide), if_pos c, if_neg (show ¬ f_X2_code w = (111 : Int32) by rw [c]; decide), if_neg (show ¬ f_X2_code w = (115 : Int32) by rw [c]; decide)]
    unfold f_X3_linkToRegister
    by_cases f0 : f_X2_f w = 0
    · simp only [if_pos f0]
      refine out_link m ?_ rfl hb
      rw [putM _ _ _ (d_ge w), im_I _ w rfl, and_m2]
      rw [← hx]
    · simp only [if_neg f0]
      exact out_ill m
  have n103 := c
  clear c
  by_cases c : f_X2_code w = (111 : Int32)
  · simp only [if_true, if_false, if_neg (show ¬ f_X2_code w = (3 : Int32) by rw [c]; decide), if_neg (show ¬ f_X2_code w = (7 : Int32) by rw [c]; decide), if_neg (show ¬ f_X2_code w = (15 : Int32) by rw [c]; decide), if_neg (show ¬ f_X2_code w = (19 : Int32) by rw [c]; decide), if_neg (show ¬ f_X2_code w = (23 : Int32) by rw [c]; decide), if_neg (show ¬ f_X2_code w = (27 : Int32) by rw [c]; decide), if_neg (show ¬ f_X2_code w = (35 : Int32) by rw [c]; decide), if_neg (show ¬ f_X2_code w = (39 : Int32) by rw [c]; decide), if_neg (show ¬ f_X2_code w = (47 : Int32) by rw [c]; decide), if_neg (show ¬ f_X2_code w = (51 : Int32) by rw [c]; decide), if_neg (show ¬ f_X2_code w = (55 : Int32) by rw [c]; decide), if_neg (show ¬ f_X2_code w = (59 : Int32) by rw [c]; decide), if_neg (show ¬ f_X2_code w = (67 : Int32) by rw [c]; decide), if_neg (show ¬ f_X2_code w = (71 : Int32) by rw [c]; decide), if_neg (show ¬ f_X2_code w = (75 : Int32) by rw [c]; decide), if_neg (show ¬ f_X2_code w = (79 : Int32) by rw [c]; decide), if_neg (show ¬ f_X2_code w = (83 : Int32) by rw [c]; decide), if_neg (show ¬ f_X2_code w = (99 : Int32) by rw [c]; decide), if_neg (show ¬ f_X2_code w = (103 : Int32) by rw [c]; decide), if_pos c, if_neg (show ¬ f_X2_code w = (115 : Int32) by rw [c]; decide)]
    refine out_link m ?_ rfl hb
    rw [putM _ _ _ (d_ge w), im_J _ w rfl]
    show u.2.1 + _ = v.2.2.1 + _
    rw [h2]
  have n111 := c
  clear c
  by_cases c : f_X2_code w = (115 : Int32)
  · simp only [if_true, if_false, if_neg (show ¬ f_X2_code w = (3 : Int32) by rw [c]; decide), if_neg (show ¬ f_X2_code w = (7 : Int32) by rw [c]; decide), if_neg (show ¬ f_X2_code w = (15 : Int32) by rw [c]; decide), if_neg (show ¬ f_X2_code w = (19 : Int32) by rw [c]; decide), if_neg (show ¬ f_X2_code w = (23 : Int32) by rw [c]; decide), if_neg (show ¬ f_X2_code w = (27 : Int32) by rw [c]; decide), if_neg (show ¬ f_X2_code w = (35 : Int32) by rw [c]; decide), if_neg (show ¬ f_X2_code w = (39 : Int32) by rw [c]; decide), if_neg (show ¬ f_X2_code w = (47 : Int32) by rw [c]; decide), if_neg (show ¬ f_X2_code w = (51 : Int32) by rw [c]; decide), if_neg (show ¬ f_X2_code w = (55 : Int32) by rw [c]; decide), if_neg (show ¬ f_X2_code w = (59 : Int32) by rw [c]; decide), if_neg (show ¬ f_X2_code w = (67 : Int32) by rw [c]; decide), if_neg (show ¬ f_X2_code w = (71 : Int32) by rw [c]; decide), if_neg (show ¬ f_X2_code w = (75 : Int32) by rw [c]; decide), if_neg (show ¬ f_X2_code w = (79 : Int32) by rw [c]; decide), if_neg (show ¬ f_X2_code w = (83 : Int32) by rw [c]; decide), if_neg (show ¬ f_X2_code w = (99 : Int32) by rw [c]; decide), if_neg (show ¬ f_X2_code w = (103 : Int32) by rw [c]; decide), if_neg (show ¬ f_X2_code w = (111 : Int32) by rw [c]; decide), if_pos c]
    rw [c, oth_115]
    exact op_115 m rfl rfl
  have n115 := c
  clear c
  simp only [if_neg n3, if_neg n7, if_neg n15, if_neg n19, if_neg n23, if_neg n27, if_neg n35, if_neg n39, if_neg n47, if_neg n51, if_neg n55, if_neg n59, if_neg n67, if_neg n71, if_neg n75, if_neg n79, if_neg n83, if_neg n99, if_neg n103, if_neg n111, if_neg n115]
  rw [oth_no _ _ _ _ n3 n7 n15 n35 n39 n47 n67 n71 n75 n79 n83 n115]
  exact out_ill m
theorem tie_run (u : ScT) (v : SmT) (z : Nat → Int64) (p0 p1 : Int32) (hSim : Sim u v) : f_X4_thrown (f_X4_run v p0 p1).2 = (h_run u z p0 p1).1 ∧ ((h_run u z p0 p1).1 = 0 → (h_run u z p0 p1).2.2 ((0 : Int32).toNatClampNeg) = (f_X4_run v p0 p1).1.toInt64) ∧ Sim (h_run u z p0 p1).2.1 (f_X4_run v p0 p1).2 := by
  by_cases c : p1 = 2 ∨ p1 = 4
  · have k := run_out hSim p0 p1 c
    have e : e_X3_run u p0 p1 = false := by
      unfold e_X3_run
      rcases c with h | h
      · rw [if_pos h]
      · rw [if_neg (by rw [h]; decide), if_pos h]
    unfold h_run
    rw [e, if_neg (by decide)]
    obtain ⟨k1, k2, k3⟩ := k
    refine ⟨k2, fun _ => ?_, k3⟩
    show vp_updL z ((0 : Int32).toNatClampNeg) (f_X3_run u p0 p1).1.toInt64 ((0 : Int32).toNatClampNeg) = _
    rw [pk_uLs, k1]
  · have n2 : ¬ p1 = (2 : Int32) := fun h => c (Or.inl h)
    have n4 : ¬ p1 = (4 : Int32) := fun h => c (Or.inr h)
    have e : e_X3_run u p0 p1 = true := by
      unfold e_X3_run
      rw [if_neg n2, if_neg n4]
    have e2 : f_X4_run v p0 p1 = ((0 : Int32), sm0 v (1 : Int32)) := by
      unfold f_X4_run
      rw [if_neg n2, if_neg n4]
    unfold h_run
    rw [e, if_pos rfl, e2]
    exact ⟨rfl, fun h => absurd h (show ¬ (1 : Int32) = 0 by decide), hSim⟩
