theorem nc4 : (4 : Int32).toNatClampNeg = 4 := by decide
theorem nc3 : (3 : Int32).toNatClampNeg = 3 := by decide
theorem nc2 : (2 : Int32).toNatClampNeg = 2 := by decide
theorem nc1 : (1 : Int32).toNatClampNeg = 1 := by decide
theorem nc0 : (0 : Int32).toNatClampNeg = 0 := by decide
theorem wanted_st (v : SmT) (p0 : Int32) : (f_X4_wanted v p0).2 = sm0 v 0 := by
  unfold f_X4_wanted
  by_cases c1 : v.2.2.2.2.2.2.2.2.1 = (-1 : Int32)
  · rw [if_pos c1]
  · rw [if_neg c1]
    by_cases c2 : p0 < 0
    · rw [if_pos c2]
    · rw [if_neg c2]
      by_cases c3 : p0 ≤ (4 : Int32)
      · rw [if_pos c3]
      · rw [if_neg c3]
theorem tie_wanted (u : ScT) (v : SmT) (p0 : Int32) (hSim : Sim u v) : f_X3_wanted u p0 = (f_X4_wanted v p0).1 ∧ Sim u (f_X4_wanted v p0).2 := by
  refine ⟨?_, by rw [wanted_st]; exact hSim⟩
  obtain ⟨h1, h2, h3, h4, h5⟩ := hSim
  unfold f_X3_wanted f_X4_wanted
  rcases h5 with ⟨a, b⟩ | ⟨a, b, c, n0, n1, n2, n3, n4, -⟩
  · rw [if_pos a, if_pos b]
  · have hu : ¬ u.2.2.2.2.1 = 0 := by rcases b with b | b | b | b | b <;> rw [b] <;> decide
    have hv : ¬ v.2.2.2.2.2.2.2.2.1 = (-1 : Int32) := by rw [a]; rcases b with b | b | b | b | b <;> rw [b] <;> decide
    rw [if_neg hu, if_neg hv]
    by_cases c0 : p0 = (0 : Int32)
    · rw [if_pos c0, c0, if_neg (by decide), if_pos (by decide), nc0]; exact n0.symm
    by_cases c1 : p0 = (1 : Int32)
    · rw [if_neg c0, if_pos c1, c1, if_neg (by decide), if_pos (by decide), nc1]; exact n1.symm
    by_cases c2 : p0 = (2 : Int32)
    · rw [if_neg c0, if_neg c1, if_pos c2, c2, if_neg (by decide), if_pos (by decide), nc2]; exact n2.symm
    by_cases c3 : p0 = (3 : Int32)
    · rw [if_neg c0, if_neg c1, if_neg c2, if_pos c3, c3, if_neg (by decide), if_pos (by decide), nc3]; exact n3.symm
    by_cases c4 : p0 = (4 : Int32)
    · rw [if_neg c0, if_neg c1, if_neg c2, if_neg c3, if_pos c4, c4, if_neg (by decide), if_pos (by decide), nc4]; exact n4.symm
    rw [if_neg c0, if_neg c1, if_neg c2, if_neg c3, if_neg c4]
    by_cases d1 : p0 < 0
    · rw [if_pos d1]
    · rw [if_neg d1]
      by_cases d2 : p0 ≤ (4 : Int32)
      · obtain ⟨j, hj, ej⟩ := vp_in_of (bd_what p0 d1 d2) (by decide)
        rcases (show j = 0 ∨ j = 1 ∨ j = 2 ∨ j = 3 ∨ j = 4 by omega) with rfl | rfl | rfl | rfl | rfl
        · exact absurd ej c0
        · exact absurd ej c1
        · exact absurd ej c2
        · exact absurd ej c3
        · exact absurd ej c4
      · rw [if_neg d2]
theorem trim_load (u : ScT) (v : SmT) (p : Int64) (h2 : u.2.2.2.2.1 = 2) (hz : u.2.2.2.2.2.2.1 = 1 ∨ u.2.2.2.2.2.2.1 = 2 ∨ u.2.2.2.2.2.2.1 = 4 ∨ u.2.2.2.2.2.2.1 = 8) (n1 : v.2.2.2.2.2.2.2.2.2.2.1 1 = u.2.2.2.2.2.2.1.toInt64) (n3 : v.2.2.2.2.2.2.2.2.2.2.1 3 = u.2.2.2.2.2.2.2.2.1.toInt64) : f_X4_loaded (sm0 v 0) p = f_X3_trimmed u p := by
  have hs : (u.2.2.2.2.2.2.2.2.1.toInt64 = (0 : Int64)) ↔ u.2.2.2.2.2.2.2.2.1 = 0 := by
    constructor
    · intro h
      have := congrArg Int64.toInt32 h
      rw [Int32.toInt32_toInt64] at this
      exact this
    · intro h; rw [h]; rfl
  unfold f_X4_loaded f_X3_trimmed
  rw [if_pos h2]
  show (if (8 : Int64) * (v.2.2.2.2.2.2.2.2.2.2.1 (1 : Int32).toNatClampNeg) = (64 : Int64) then p else if (v.2.2.2.2.2.2.2.2.2.2.1 (3 : Int32).toNatClampNeg) = (0 : Int64) then if (p &&& ((j_lshl (1 : Int64) ((8 : Int64) * (v.2.2.2.2.2.2.2.2.2.2.1 (1 : Int32).toNatClampNeg)).toInt32) - (1 : Int64))) < ((j_lshl (1 : Int64) ((8 : Int64) * (v.2.2.2.2.2.2.2.2.2.2.1 (1 : Int32).toNatClampNeg)).toInt32) / (2 : Int64)) then (p &&& ((j_lshl (1 : Int64) ((8 : Int64) * (v.2.2.2.2.2.2.2.2.2.2.1 (1 : Int32).toNatClampNeg)).toInt32) - (1 : Int64))) else ((p &&& ((j_lshl (1 : Int64) ((8 : Int64) * (v.2.2.2.2.2.2.2.2.2.2.1 (1 : Int32).toNatClampNeg)).toInt32) - (1 : Int64))) - (j_lshl (1 : Int64) ((8 : Int64) * (v.2.2.2.2.2.2.2.2.2.2.1 (1 : Int32).toNatClampNeg)).toInt32)) else (p &&& ((j_lshl (1 : Int64) ((8 : Int64) * (v.2.2.2.2.2.2.2.2.2.2.1 (1 : Int32).toNatClampNeg)).toInt32) - (1 : Int64)))) = _
  rw [nc1, nc3, n1, n3]
  rcases hz with e | e | e | e
  · rw [e, show (8 : Int64) * (1 : Int32).toInt64 = 8 from by decide, show (8 : Int64).toInt32 = nI 8 from by decide, show (64 : Int32) - (8 : Int32) * 1 = nI 56 from by decide, if_neg (by decide), tr8 p _ rfl, ts8 p _ rfl]
    by_cases s : u.2.2.2.2.2.2.2.2.1 = 0
    · rw [if_pos s, if_pos (hs.mpr s)]
    · rw [if_neg s, if_neg (mt hs.mp s)]
  · rw [e, show (8 : Int64) * (2 : Int32).toInt64 = 16 from by decide, show (16 : Int64).toInt32 = nI 16 from by decide, show (64 : Int32) - (8 : Int32) * 2 = nI 48 from by decide, if_neg (by decide), tr16 p _ rfl, ts16 p _ rfl]
    by_cases s : u.2.2.2.2.2.2.2.2.1 = 0
    · rw [if_pos s, if_pos (hs.mpr s)]
    · rw [if_neg s, if_neg (mt hs.mp s)]
  · rw [e, show (8 : Int64) * (4 : Int32).toInt64 = 32 from by decide, show (32 : Int64).toInt32 = nI 32 from by decide, show (64 : Int32) - (8 : Int32) * 4 = nI 32 from by decide, if_neg (by decide), tr32 p _ rfl, ts32 p _ rfl]
    by_cases s : u.2.2.2.2.2.2.2.2.1 = 0
    · rw [if_pos s, if_pos (hs.mpr s)]
    · rw [if_neg s, if_neg (mt hs.mp s)]
  · have q1 : j_lshl p (nI 0) = p := uN_inj (by rw [uN_jlshl _ (by decide)]; have := uN_lt p; omega)
    have q2 : j_lushr p (nI 0) = p := uN_inj (by rw [uN_jlushr _ (by decide)]; omega)
    have q3 : j_lshr p (nI 0) = p := uN_ti (by rw [ti_jlshr _ (by decide)]; omega)
    rw [e, show (8 : Int64) * (8 : Int32).toInt64 = 64 from by decide, if_pos rfl, show (64 : Int32) - (8 : Int32) * 8 = nI 0 from by decide, q1, q2, q3]
    by_cases s : u.2.2.2.2.2.2.2.2.1 = 0
    · rw [if_pos s]
    · rw [if_neg s]
theorem tie_finish (u : ScT) (v : SmT) (z : Nat → Int64) (p0 : Int32) (p1 : Int64) (hSim : Sim u v) : f_X4_thrown (f_X4_finish v p0 p1).2 = (h_finish u z p0 p1).1 ∧ ((h_finish u z p0 p1).1 = 0 → (h_finish u z p0 p1).2.2 ((0 : Int32).toNatClampNeg) = (f_X4_finish v p0 p1).1.toInt64) ∧ Sim (h_finish u z p0 p1).2.1 (f_X4_finish v p0 p1).2 := by
  obtain ⟨h1, h2, h3, h4, h5⟩ := id hSim
  unfold h_finish e_X3_finish
  rcases h5 with ⟨a, b⟩ | ⟨a, b, c, n0, n1, n2, n3, n4, ⟨t0, t1⟩, lz, sz⟩
  · rw [if_pos a, if_pos rfl]
    unfold f_X4_finish
    rw [if_pos b]
    exact ⟨rfl, fun h => absurd h (show ¬ (1 : Int32) = 0 by decide), hSim⟩
  · have hu : ¬ u.2.2.2.2.1 = 0 := by rcases b with b | b | b | b | b <;> rw [b] <;> decide
    have hv : ¬ v.2.2.2.2.2.2.2.2.1 = (-1 : Int32) := by rw [a]; rcases b with b | b | b | b | b <;> rw [b] <;> decide
    rw [if_neg hu, if_neg (by decide)]
    have hr : (v.2.2.2.2.2.2.2.2.2.2.1 (4 : Int32).toNatClampNeg).toInt32 = u.2.2.2.2.2.2.2.2.2 := by rw [nc4, n4, Int32.toInt32_toInt64]
    have key : ∀ (r : Nat → Int64) (w : Nat → Int64), r = w → f_X4_thrown (sm8 (sm3 (sm2 (sm1 (sm0 v (0 : Int32)) w) (v.2.2.1 + v.2.2.2.2.2.2.2.2.2.1.toInt64)) (v.2.2.2.1 + (1 : Int64))) (-1 : Int32)) = (0 : Int32) ∧ ((0 : Int32) = 0 → vp_updL z ((0 : Int32).toNatClampNeg) u.2.2.2.2.1.toInt64 ((0 : Int32).toNatClampNeg) = v.2.2.2.2.2.2.2.2.1.toInt64) ∧ Sim (sc2 (sc1 (sc4 (sc0 u r) 0) (u.2.1 + u.2.2.2.1.toInt64)) (u.2.2.1 + 1)) (sm8 (sm3 (sm2 (sm1 (sm0 v (0 : Int32)) w) (v.2.2.1 + v.2.2.2.2.2.2.2.2.2.1.toInt64)) (v.2.2.2.1 + (1 : Int64))) (-1 : Int32)) := by
      intro r w hrw
      refine ⟨rfl, fun _ => by rw [a]; exact pk_uLs, hrw, ?_, ?_, h4, Or.inl ⟨rfl, rfl⟩⟩
      · show u.2.1 + u.2.2.2.1.toInt64 = v.2.2.1 + v.2.2.2.2.2.2.2.2.2.1.toInt64
        rw [h2, c]
      · show u.2.2.1 + 1 = v.2.2.2.1 + 1
        rw [h3]
    by_cases g : p0 = 0
    · have e1 : f_X3_finish u p0 p1 = (u.2.2.2.2.1, sc2 (sc1 (sc4 (sc0 u u.1) 0) (u.2.1 + u.2.2.2.1.toInt64)) (u.2.2.1 + 1)) := by
        unfold f_X3_finish; rw [if_neg hu, if_pos g]; rfl
      have e2 : f_X4_finish v p0 p1 = (v.2.2.2.2.2.2.2.2.1, sm8 (sm3 (sm2 (sm1 (sm0 v (0 : Int32)) v.2.1) (v.2.2.1 + v.2.2.2.2.2.2.2.2.2.1.toInt64)) (v.2.2.2.1 + (1 : Int64))) (-1 : Int32)) := by
        unfold f_X4_finish; rw [if_neg hv, if_pos g]
      rw [e1, e2]
      exact key u.1 v.2.1 h1
    · have e1 : f_X3_finish u p0 p1 = (u.2.2.2.2.1, sc2 (sc1 (sc4 (sc0 u (pt u.1 u.2.2.2.2.2.2.2.2.2 (f_X3_trimmed u p1))) 0) (u.2.1 + u.2.2.2.1.toInt64)) (u.2.2.1 + 1)) := by
        unfold f_X3_finish; rw [if_neg hu, if_neg g, putC _ _ _ (reg_ok _ t0 t1)]; rfl
      have e2 : f_X4_finish v p0 p1 = (v.2.2.2.2.2.2.2.2.1, sm8 (sm3 (sm2 (sm1 (sm0 v (0 : Int32)) (pt v.2.1 u.2.2.2.2.2.2.2.2.2 (f_X3_trimmed u p1))) (v.2.2.1 + v.2.2.2.2.2.2.2.2.2.1.toInt64)) (v.2.2.2.1 + (1 : Int64))) (-1 : Int32)) := by
        unfold f_X4_finish
        rw [if_neg hv, if_neg g]
        rcases b with b | b | b | b | b
        · rw [if_neg (by rw [a, b]; decide), if_pos (a.trans b), hr, putM _ _ _ t0, trim_load u v p1 b (lz b) n1 n3]
        · rw [if_pos (a.trans b), show u.2.2.2.2.2.2.2.2.2 = 0 from sz b]; rfl
        · have et : f_X3_trimmed u p1 = if u.2.2.2.2.2.2.1 = (4 : Int32) then p1.toInt32.toInt64 else p1 := by
            unfold f_X3_trimmed; rw [if_neg (by rw [b]; decide), if_pos b]
          rw [if_neg (by rw [a, b]; decide), if_neg (by rw [a, b]; decide), if_pos (a.trans b), hr, putM _ _ _ t0, putM _ _ _ t0, et, nc1, n1]
          by_cases s : u.2.2.2.2.2.2.1 = (4 : Int32)
          · rw [if_pos s, if_pos (by rw [s]; rfl)]
          · rw [if_neg s, if_neg (by
              intro q
              apply s
              have := congrArg Int64.toInt32 q
              rw [Int32.toInt32_toInt64] at this
              exact this)]
        · have et : f_X3_trimmed u p1 = p1 := by
            unfold f_X3_trimmed; rw [if_neg (by rw [b]; decide), if_neg (by rw [b]; decide)]
          rw [if_neg (by rw [a, b]; decide), if_neg (by rw [a, b]; decide), if_neg (by rw [a, b]; decide), hr, putM _ _ _ t0, et]
        · have et : f_X3_trimmed u p1 = p1 := by
            unfold f_X3_trimmed; rw [if_neg (by rw [b]; decide), if_neg (by rw [b]; decide)]
          rw [if_neg (by rw [a, b]; decide), if_neg (by rw [a, b]; decide), if_neg (by rw [a, b]; decide), hr, putM _ _ _ t0, et]
      rw [e1, e2]
      exact key _ _ (congrArg (fun f => pt f _ _) h1)
