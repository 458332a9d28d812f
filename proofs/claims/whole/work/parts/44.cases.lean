abbrev Wz (h0 h1 : Nat) (cA : ClassId) (g0 g1 g2 : Nat) (cB cC : ClassId) (o0 : Nat) (cO : ClassId) (u : ScT) (v : SmT) (z : Nat → Int64) : va_W := [(h0, .inr (0, [.ref h1, .long u.2.1, .long u.2.2.1, .int u.2.2.2.1, .int u.2.2.2.2.1, .long u.2.2.2.2.2.1, .int u.2.2.2.2.2.2.1, .long u.2.2.2.2.2.2.2.1, .int u.2.2.2.2.2.2.2.2.1, .int u.2.2.2.2.2.2.2.2.2])), (h1, .inl (cA, 32, .inr (.inl u.1))), (g0, .inr (1, [.int v.1, .ref g1, .long v.2.2.1, .long v.2.2.2.1, .int v.2.2.2.2.1, .int v.2.2.2.2.2.1, .long v.2.2.2.2.2.2.1, .long v.2.2.2.2.2.2.2.1, .int v.2.2.2.2.2.2.2.2.1, .int v.2.2.2.2.2.2.2.2.2.1, .ref g2, .long v.2.2.2.2.2.2.2.2.2.2.2.1, .long v.2.2.2.2.2.2.2.2.2.2.2.2])), (g1, .inl (cB, 32, .inr (.inl v.2.1))), (g2, .inl (cC, 5, .inr (.inl v.2.2.2.2.2.2.2.2.2.2.1))), (o0, .inl (cO, 1, .inr (.inl z)))]
def lw_C (p : Program) (l : Launch) (s : State) (m : MethodId) (c : Code) (b L : Nat) (xs : Nat → Int32) (dC : Nat → ClassId) (dI : Nat → Nat → Nat) (cA cB cC cO : ClassId) : Prop :=
  p.tables.exec = Jvm.exec ∧ c.code = cL_law ∧ c.maxLocals = 8 ∧ s.vm.findClass RL = some m.cls ∧ (∀ w ∈ lw_G, w.before #[Value.ref b] s = true) ∧ va_X b L xs s s.heap ∧ b < s.heap.size ∧ l.stackTraces = false ∧ tx_F (fun q : Nat => s.heap.size ≤ q) s ∧ va_K (dC, dI) vwCl [(cA, .long), (cB, .long), (cC, .long), (cO, .long)] s
set_option maxHeartbeats 4000000 in
set_option maxRecDepth 100000 in
theorem lw_case0 {p : Program} {l : Launch} {e : Env} {s : State} {m : MethodId} {below : List Frame} {meth : Method} {c : Code} {b L : Nat} {xs : Nat → Int32} {dC : Nat → ClassId} {dI : Nat → Nat → Nat} {h0 h1 g0 g1 g2 o0 : Nat} {cA cB cC cO : ClassId} (C9 : lw_C p l s m c b L xs dC dI cA cB cC cO) {i : Int32} (hi0 : vp_in i L) (hi1 : vp_in (i + (1 : Int32)) L) (hi2 : vp_in (i + (2 : Int32)) L) (hi3 : vp_in (i + (3 : Int32)) L) {u : ScT} {v : SmT} {z : Nat → Int64} {H : Heap} {locs : List Loc} {ls : Array Slot} {cells slots : Nat} (hroom : cells + 1 ≤ room_1.cells ∧ slots + 6 ≤ room_1.slots) (hSim : Sim u v) (hl : lv_has ls 8 [(4, .int i), (3, .ref o0), (2, .ref g0), (1, .ref h0), (0, .ref b)]) (hP : va_P (dC, dI) vwCl (Wz h0 h1 cA g0 g1 g2 cB cC o0 cO u v z) H) (hD : va_D (fun q : Nat => s.heap.size ≤ q) (Wz h0 h1 cA g0 g1 g2 cB cC o0 cO u v z)) (hS : va_S (fun q : Nat => s.heap.size ≤ q) s.heap H locs) (K9 : ∀ (u' : ScT) (v' : SmT) (z' : Nat → Int64) (H' : Heap) (locs' : List Loc) (ls' : Array Slot), Sim u' v' → lv_has ls' 8 [(4, .int i), (3, .ref o0), (2, .ref g0), (1, .ref h0), (0, .ref b)] → va_P (dC, dI) vwCl (Wz h0 h1 cA g0 g1 g2 cB cC o0 cO u' v' z') H' → va_D (fun q : Nat => s.heap.size ≤ q) (Wz h0 h1 cA g0 g1 g2 cB cC o0 cO u' v' z') → va_S (fun q : Nat => s.heap.size ≤ q) s.heap H' locs' → W p l e room_1 s m #[Value.ref b] below meth c H' locs' (cells + 1) (slots + 6) (lw_Z below #[Value.ref b] s) (F0 m 512 ls' [])) : W p l e room_1 s m #[Value.ref b] below meth c H locs cells slots (lw_Z below #[Value.ref b] s) (F0 m 84 ls []) := by
  obtain ⟨hx, hb, hml, hown, hts, hX, hbl, hl9, hT, hK⟩ := id C9
  have hA : ∀ q : Nat, s.heap.size ≤ q → (fun q : Nat => s.heap.size ≤ q) q := fun _ h => h
  have hbA : ¬ (fun q : Nat => s.heap.size ≤ q) b := Nat.not_le.mpr hbl
  refine lv_aload_n hx hb dL_law_84 rfl (lv_at hl 3 rfl) ?_
  refine lv_aload_n hx hb dL_law_85 rfl (lv_at hl 4 rfl) ?_
  refine lv_iload hx hb dL_law_86 (lv_at hl 0 rfl) ?_
  refine lv_iconst (v := (1 : Int32)) hx hb dL_law_88 (by decide) ?_
  refine lv_iadd hx hb dL_law_89 ?_
  refine va_sld hx hb hX hbl hbA hS hi1 dL_law_90 ?_
  refine lv_aload_n hx hb dL_law_91 rfl (lv_at hl 1 rfl) ?_
  have hF := va_free (wc := (Wl h0 h1 cA o0 cO (u, z))) hD hS hA [0, 1, 5] rfl
  have hPc := hP.sub (ws' := (Wl h0 h1 cA o0 cO (u, z))) [0, 1, 5] rfl
  have hDc := hD.sub (ws' := (Wl h0 h1 cA o0 cO (u, z))) [0, 1, 5] (by decide) rfl
  have hKc := hK.sub (tys' := [(cA, .long), (cO, .long)]) [0, 3] rfl
  refine wr_calli (wr := (Wm g0 g1 g2 cB cC v)) (vx_runSW (As := [.ref h0, .int (xs (i + (1 : Int32)).toNatClampNeg), .ref o0]) (rest := []) ⟨hx, hb, hml, hown, hts⟩ (mt_L_get l hl9 dC dI h0 h1 cA o0 cO H.size u z (xs (i + (1 : Int32)).toNatClampNeg)) (vx_cwSW 3 hts gL_35_L_get rfl rfl rfl (by decide +kernel) ⟨Nat.le_of_ble_eq_true rfl, Nat.le_of_ble_eq_true rfl⟩) (tw_S hKc hPc hDc hT hS hF) rfl rfl hl.1 rfl (lv_room (Nat.le_of_ble_eq_true rfl)) dL_law_92 hroom) hS hP hD hA [0, 1, 5] [2, 3, 4] rfl rfl (by decide) (by decide) (fun r_ v_ H locs hw hP hD hS => ?_)
  obtain ⟨rfl, rfl⟩ := hw
  refine W.eq (g2 := F0 m 95 ls [.int (h_get u z (xs (i + (1 : Int32)).toNatClampNeg)).1]) rfl ?_
  have hP : va_P (dC, dI) vwCl (Wz h0 h1 cA g0 g1 g2 cB cC o0 cO (h_get u z (xs (i + (1 : Int32)).toNatClampNeg)).2.1 v (h_get u z (xs (i + (1 : Int32)).toNatClampNeg)).2.2) H := hP.sub (ws' := (Wz h0 h1 cA g0 g1 g2 cB cC o0 cO (h_get u z (xs (i + (1 : Int32)).toNatClampNeg)).2.1 v (h_get u z (xs (i + (1 : Int32)).toNatClampNeg)).2.2)) [3, 4, 0, 1, 2, 5] rfl
  have hD : va_D (fun q : Nat => s.heap.size ≤ q) (Wz h0 h1 cA g0 g1 g2 cB cC o0 cO (h_get u z (xs (i + (1 : Int32)).toNatClampNeg)).2.1 v (h_get u z (xs (i + (1 : Int32)).toNatClampNeg)).2.2) := hD.sub (ws' := (Wz h0 h1 cA g0 g1 g2 cB cC o0 cO (h_get u z (xs (i + (1 : Int32)).toNatClampNeg)).2.1 v (h_get u z (xs (i + (1 : Int32)).toNatClampNeg)).2.2)) [3, 4, 0, 1, 2, 5] (by decide) rfl
  refine lv_istore (lv' := [(5, .int (h_get u z (xs (i + (1 : Int32)).toNatClampNeg)).1), (4, .int i), (3, .ref o0), (2, .ref g0), (1, .ref h0), (0, .ref b)]) hx hb dL_law_95 hl (by decide) rfl (fun ls hl => ?_)
  refine lv_aload_n hx hb dL_law_97 rfl (lv_at hl 3 rfl) ?_
  refine lv_aload_n hx hb dL_law_98 rfl (lv_at hl 5 rfl) ?_
  refine lv_iload hx hb dL_law_99 (lv_at hl 1 rfl) ?_
  refine lv_iconst (v := (1 : Int32)) hx hb dL_law_101 (by decide) ?_
  refine lv_iadd hx hb dL_law_102 ?_
  refine va_sld hx hb hX hbl hbA hS hi1 dL_law_103 ?_
  have hPc := hP.sub (ws' := (Wm g0 g1 g2 cB cC v)) [2, 3, 4] rfl
  have hKc := hK.sub (tys' := [(cB, .long), (cC, .long)]) [1, 2] rfl
  have hDc := hD.sub (ws' := (Wm g0 g1 g2 cB cC v)) [2, 3, 4] (by decide) rfl
  refine wr_calll (wr := (Wc h0 h1 cA (h_get u z (xs (i + (1 : Int32)).toNatClampNeg)).2.1) ++ [(o0, .inl (cO, 1, .inr (.inl (h_get u z (xs (i + (1 : Int32)).toNatClampNeg)).2.2)))]) (va_runV (As := [.int (xs (i + (1 : Int32)).toNatClampNeg)]) (rest := []) ⟨hx, hb, hml, hown, hts⟩ (mt_X4_get l dC dI g0 g1 g2 cB cC H.size v (xs (i + (1 : Int32)).toNatClampNeg)) (cwV 1 hts gL_40_X4_get rfl rfl rfl (by decide +kernel) ⟨Nat.le_of_ble_eq_true rfl, Nat.le_of_ble_eq_true rfl⟩) (wr_V hKc hPc hDc (ci := 1) (q0 := 0) rfl rfl rfl) rfl rfl hl.1 rfl (lv_room (Nat.le_of_ble_eq_true rfl)) dL_law_104 ⟨hroom.1, Nat.le_trans (Nat.le_add_right _ 0) hroom.2⟩) hS hP hD hA [2, 3, 4] [0, 1, 5] rfl rfl (by decide) (by decide) (fun r_ v_ H locs hw hP hD hS => ?_)
  obtain ⟨rfl, rfl⟩ := hw
  refine W.eq (g2 := F0 m 107 ls [.long (f_X4_get v (xs (i + (1 : Int32)).toNatClampNeg)).1]) rfl ?_
  have hP : va_P (dC, dI) vwCl (Wz h0 h1 cA g0 g1 g2 cB cC o0 cO (h_get u z (xs (i + (1 : Int32)).toNatClampNeg)).2.1 (f_X4_get v (xs (i + (1 : Int32)).toNatClampNeg)).2 (h_get u z (xs (i + (1 : Int32)).toNatClampNeg)).2.2) H := hP.sub (ws' := (Wz h0 h1 cA g0 g1 g2 cB cC o0 cO (h_get u z (xs (i + (1 : Int32)).toNatClampNeg)).2.1 (f_X4_get v (xs (i + (1 : Int32)).toNatClampNeg)).2 (h_get u z (xs (i + (1 : Int32)).toNatClampNeg)).2.2)) [0, 1, 3, 4, 5, 2] rfl
  have hD : va_D (fun q : Nat => s.heap.size ≤ q) (Wz h0 h1 cA g0 g1 g2 cB cC o0 cO (h_get u z (xs (i + (1 : Int32)).toNatClampNeg)).2.1 (f_X4_get v (xs (i + (1 : Int32)).toNatClampNeg)).2 (h_get u z (xs (i + (1 : Int32)).toNatClampNeg)).2.2) := hD.sub (ws' := (Wz h0 h1 cA g0 g1 g2 cB cC o0 cO (h_get u z (xs (i + (1 : Int32)).toNatClampNeg)).2.1 (f_X4_get v (xs (i + (1 : Int32)).toNatClampNeg)).2 (h_get u z (xs (i + (1 : Int32)).toNatClampNeg)).2.2)) [0, 1, 3, 4, 5, 2] (by decide) rfl
  refine lv_lstore (lv' := [(6, .long (f_X4_get v (xs (i + (1 : Int32)).toNatClampNeg)).1), (5, .int (h_get u z (xs (i + (1 : Int32)).toNatClampNeg)).1), (4, .int i), (3, .ref o0), (2, .ref g0), (1, .ref h0), (0, .ref b)]) hx hb dL_law_107 hl (by decide) rfl (fun ls hl => ?_)
  refine lv_aload_n hx hb dL_law_109 rfl (lv_at hl 4 rfl) ?_
  have hPc := hP.sub (ws' := (Wm g0 g1 g2 cB cC (f_X4_get v (xs (i + (1 : Int32)).toNatClampNeg)).2)) [2, 3, 4] rfl
  have hKc := hK.sub (tys' := [(cB, .long), (cC, .long)]) [1, 2] rfl
  refine W.callV (W.runV (As := []) (rest := []) ⟨hx, hb, hml, hown, hts⟩ (mt_X4_thrown l dC dI g0 g1 g2 cB cC (f_X4_get v (xs (i + (1 : Int32)).toNatClampNeg)).2 ) (cwV 0 hts gL_41_X4_thrown rfl rfl rfl (by decide +kernel) ⟨Nat.le_of_ble_eq_true rfl, Nat.le_of_ble_eq_true rfl⟩) (rd_V hKc hPc (ci := 1) (q0 := 0) rfl rfl rfl) rfl rfl hl.1 rfl (lv_room (Nat.le_of_ble_eq_true rfl)) dL_law_110 ⟨hroom.1, Nat.le_trans (Nat.le_add_right _ 0) hroom.2⟩) ?_
  refine W.eq (g2 := F0 m 113 ls [.int (f_X4_thrown (f_X4_get v (xs (i + (1 : Int32)).toNatClampNeg)).2)]) rfl ?_
  refine lv_iload hx hb dL_law_113 (lv_at hl 1 rfl) ?_
  refine lv_icmp_eq (tgt := 120) hx hb dL_law_115 (by decide) (fun c1 => ?_) (fun c1 => ?_)
  · refine lv_iload hx hb dL_law_120 (lv_at hl 1 rfl) ?_
    refine lv_if_ne (tgt := 136) hx hb dL_law_122 (by decide) (fun c2 => ?_) (fun c2 => ?_)
    · refine lv_goto (tgt := 512) hx hb dL_law_136 (by decide) ?_
      refine W.widen (k := cells + 1) (n := slots + 6) (by omega) (by omega) ?_
      exact K9 _ _ _ _ _ _ (tie_get u v z _ hSim).2.2 (lv_sub hl [2, 3, 4, 5, 6] rfl) hP hD hS
    · refine lv_aload_n hx hb dL_law_125 rfl (lv_at hl 3 rfl) ?_
      refine lv_iconst (v := (0 : Int32)) hx hb dL_law_126 (by decide) ?_
      refine va_lald hx hb hK hP 5 3 rfl rfl (by unfold vp_in; decide) dL_law_127 ?_
      refine lv_lload hx hb dL_law_128 (lv_at hl 0 rfl) ?_
      refine W.lcmp hx hb dL_law_130 ?_
      refine lv_if_eq (tgt := 136) hx hb dL_law_131 (by decide) (fun c3 => ?_) (fun c3 => ?_)
      · have c3 := (lg_cmp_eq ((h_get u z (xs (i + (1 : Int32)).toNatClampNeg)).2.2 (0 : Int32).toNatClampNeg) (f_X4_get v (xs (i + (1 : Int32)).toNatClampNeg)).1).mp c3
        refine lv_goto (tgt := 512) hx hb dL_law_136 (by decide) ?_
        refine W.widen (k := cells + 1) (n := slots + 6) (by omega) (by omega) ?_
        exact K9 _ _ _ _ _ _ (tie_get u v z _ hSim).2.2 (lv_sub hl [2, 3, 4, 5, 6] rfl) hP hD hS
      · have c3 := mt (lg_cmp_eq ((h_get u z (xs (i + (1 : Int32)).toNatClampNeg)).2.2 (0 : Int32).toNatClampNeg) (f_X4_get v (xs (i + (1 : Int32)).toNatClampNeg)).1).mpr c3
        refine lv_iconst (v := (0 : Int32)) hx hb dL_law_134 (by decide) ?_
        exact absurd ((tie_get u v z _ hSim).2.1 c2) c3
  · refine lv_iconst (v := (0 : Int32)) hx hb dL_law_118 (by decide) ?_
    exact absurd (tie_get u v z _ hSim).1 c1

set_option maxHeartbeats 4000000 in
set_option maxRecDepth 100000 in
theorem lw_case1 {p : Program} {l : Launch} {e : Env} {s : State} {m : MethodId} {below : List Frame} {meth : Method} {c : Code} {b L : Nat} {xs : Nat → Int32} {dC : Nat → ClassId} {dI : Nat → Nat → Nat} {h0 h1 g0 g1 g2 o0 : Nat} {cA cB cC cO : ClassId} (C9 : lw_C p l s m c b L xs dC dI cA cB cC cO) {i : Int32} (hi0 : vp_in i L) (hi1 : vp_in (i + (1 : Int32)) L) (hi2 : vp_in (i + (2 : Int32)) L) (hi3 : vp_in (i + (3 : Int32)) L) {u : ScT} {v : SmT} {z : Nat → Int64} {H : Heap} {locs : List Loc} {ls : Array Slot} {cells slots : Nat} (hroom : cells + 1 ≤ room_1.cells ∧ slots + 6 ≤ room_1.slots) (hSim : Sim u v) (hl : lv_has ls 8 [(4, .int i), (3, .ref o0), (2, .ref g0), (1, .ref h0), (0, .ref b)]) (hP : va_P (dC, dI) vwCl (Wz h0 h1 cA g0 g1 g2 cB cC o0 cO u v z) H) (hD : va_D (fun q : Nat => s.heap.size ≤ q) (Wz h0 h1 cA g0 g1 g2 cB cC o0 cO u v z)) (hS : va_S (fun q : Nat => s.heap.size ≤ q) s.heap H locs) (K9 : ∀ (u' : ScT) (v' : SmT) (z' : Nat → Int64) (H' : Heap) (locs' : List Loc) (ls' : Array Slot), Sim u' v' → lv_has ls' 8 [(4, .int i), (3, .ref o0), (2, .ref g0), (1, .ref h0), (0, .ref b)] → va_P (dC, dI) vwCl (Wz h0 h1 cA g0 g1 g2 cB cC o0 cO u' v' z') H' → va_D (fun q : Nat => s.heap.size ≤ q) (Wz h0 h1 cA g0 g1 g2 cB cC o0 cO u' v' z') → va_S (fun q : Nat => s.heap.size ≤ q) s.heap H' locs' → W p l e room_1 s m #[Value.ref b] below meth c H' locs' (cells + 1) (slots + 6) (lw_Z below #[Value.ref b] s) (F0 m 512 ls' [])) : W p l e room_1 s m #[Value.ref b] below meth c H locs cells slots (lw_Z below #[Value.ref b] s) (F0 m 139 ls []) := by
  obtain ⟨hx, hb, hml, hown, hts, hX, hbl, hl9, hT, hK⟩ := id C9
  have hA : ∀ q : Nat, s.heap.size ≤ q → (fun q : Nat => s.heap.size ≤ q) q := fun _ h => h
  have hbA : ¬ (fun q : Nat => s.heap.size ≤ q) b := Nat.not_le.mpr hbl
  refine lv_aload_n hx hb dL_law_139 rfl (lv_at hl 3 rfl) ?_
  refine lv_aload_n hx hb dL_law_140 rfl (lv_at hl 4 rfl) ?_
  refine lv_iload hx hb dL_law_141 (lv_at hl 0 rfl) ?_
  refine lv_iconst (v := (1 : Int32)) hx hb dL_law_143 (by decide) ?_
  refine lv_iadd hx hb dL_law_144 ?_
  refine va_sld hx hb hX hbl hbA hS hi1 dL_law_145 ?_
  refine lv_aload_n hx hb dL_law_146 rfl (lv_at hl 4 rfl) ?_
  refine lv_iload hx hb dL_law_147 (lv_at hl 0 rfl) ?_
  refine lv_iconst (v := (2 : Int32)) hx hb dL_law_149 (by decide) ?_
  refine lv_iadd hx hb dL_law_150 ?_
  refine va_sld hx hb hX hbl hbA hS hi2 dL_law_151 ?_
  refine lv_i2l (v := (xs (i + (2 : Int32)).toNatClampNeg).toInt64) hx hb dL_law_152 rfl ?_
  refine lv_bipush (v := (32 : Int32)) hx hb dL_law_153 (by decide) ?_
  refine lv_lshl (v := (j_lshl (xs (i + (2 : Int32)).toNatClampNeg).toInt64 (32 : Int32))) hx hb dL_law_155 rfl ?_
  refine lv_aload_n hx hb dL_law_156 rfl (lv_at hl 4 rfl) ?_
  refine lv_iload hx hb dL_law_157 (lv_at hl 0 rfl) ?_
  refine lv_iconst (v := (3 : Int32)) hx hb dL_law_159 (by decide) ?_
  refine lv_iadd hx hb dL_law_160 ?_
  refine va_sld hx hb hX hbl hbA hS hi3 dL_law_161 ?_
  refine lv_i2l (v := (xs (i + (3 : Int32)).toNatClampNeg).toInt64) hx hb dL_law_162 rfl ?_
  refine lv_ldc2 (v := (4294967295 : Int64)) hx hb hown (hts _ qw_404) dL_law_163 ?_
  refine lv_land hx hb dL_law_166 ?_
  refine lv_lor hx hb dL_law_167 ?_
  have hF := va_free (wc := (Wc h0 h1 cA u)) hD hS hA [0, 1] rfl
  have hPc := hP.sub (ws' := (Wc h0 h1 cA u)) [0, 1] rfl
  have hDc := hD.sub (ws' := (Wc h0 h1 cA u)) [0, 1] (by decide) rfl
  have hKc := hK.sub (tys' := [(cA, .long)]) [0] rfl
  refine wr_calli (wr := (Wm g0 g1 g2 cB cC v) ++ [(o0, .inl (cO, 1, .inr (.inl z)))]) (vx_runSW (As := [.ref h0, .int (xs (i + (1 : Int32)).toNatClampNeg), .long ((j_lshl (xs (i + (2 : Int32)).toNatClampNeg).toInt64 (32 : Int32)) ||| ((xs (i + (3 : Int32)).toNatClampNeg).toInt64 &&& (4294967295 : Int64)))]) (rest := []) ⟨hx, hb, hml, hown, hts⟩ (mt_L_set l hl9 dC dI h0 h1 cA H.size u (xs (i + (1 : Int32)).toNatClampNeg) ((j_lshl (xs (i + (2 : Int32)).toNatClampNeg).toInt64 (32 : Int32)) ||| ((xs (i + (3 : Int32)).toNatClampNeg).toInt64 &&& (4294967295 : Int64)))) (vx_cwSW 3 hts gL_47_L_set rfl rfl rfl (by decide +kernel) ⟨Nat.le_of_ble_eq_true rfl, Nat.le_of_ble_eq_true rfl⟩) (tw_S hKc hPc hDc hT hS hF) rfl rfl hl.1 rfl (lv_room (Nat.le_of_ble_eq_true rfl)) dL_law_168 hroom) hS hP hD hA [0, 1] [2, 3, 4, 5] rfl rfl (by decide) (by decide) (fun r_ v_ H locs hw hP hD hS => ?_)
  obtain ⟨rfl, rfl⟩ := hw
  refine W.eq (g2 := F0 m 171 ls [.int (h_set u (xs (i + (1 : Int32)).toNatClampNeg) ((j_lshl (xs (i + (2 : Int32)).toNatClampNeg).toInt64 (32 : Int32)) ||| ((xs (i + (3 : Int32)).toNatClampNeg).toInt64 &&& (4294967295 : Int64)))).1]) rfl ?_
  have hP : va_P (dC, dI) vwCl (Wz h0 h1 cA g0 g1 g2 cB cC o0 cO (h_set u (xs (i + (1 : Int32)).toNatClampNeg) ((j_lshl (xs (i + (2 : Int32)).toNatClampNeg).toInt64 (32 : Int32)) ||| ((xs (i + (3 : Int32)).toNatClampNeg).toInt64 &&& (4294967295 : Int64)))).2 v z) H := hP.sub (ws' := (Wz h0 h1 cA g0 g1 g2 cB cC o0 cO (h_set u (xs (i + (1 : Int32)).toNatClampNeg) ((j_lshl (xs (i + (2 : Int32)).toNatClampNeg).toInt64 (32 : Int32)) ||| ((xs (i + (3 : Int32)).toNatClampNeg).toInt64 &&& (4294967295 : Int64)))).2 v z)) [4, 5, 0, 1, 2, 3] rfl
  have hD : va_D (fun q : Nat => s.heap.size ≤ q) (Wz h0 h1 cA g0 g1 g2 cB cC o0 cO (h_set u (xs (i + (1 : Int32)).toNatClampNeg) ((j_lshl (xs (i + (2 : Int32)).toNatClampNeg).toInt64 (32 : Int32)) ||| ((xs (i + (3 : Int32)).toNatClampNeg).toInt64 &&& (4294967295 : Int64)))).2 v z) := hD.sub (ws' := (Wz h0 h1 cA g0 g1 g2 cB cC o0 cO (h_set u (xs (i + (1 : Int32)).toNatClampNeg) ((j_lshl (xs (i + (2 : Int32)).toNatClampNeg).toInt64 (32 : Int32)) ||| ((xs (i + (3 : Int32)).toNatClampNeg).toInt64 &&& (4294967295 : Int64)))).2 v z)) [4, 5, 0, 1, 2, 3] (by decide) rfl
  refine lv_istore (lv' := [(5, .int (h_set u (xs (i + (1 : Int32)).toNatClampNeg) ((j_lshl (xs (i + (2 : Int32)).toNatClampNeg).toInt64 (32 : Int32)) ||| ((xs (i + (3 : Int32)).toNatClampNeg).toInt64 &&& (4294967295 : Int64)))).1), (4, .int i), (3, .ref o0), (2, .ref g0), (1, .ref h0), (0, .ref b)]) hx hb dL_law_171 hl (by decide) rfl (fun ls hl => ?_)
  refine lv_aload_n hx hb dL_law_173 rfl (lv_at hl 3 rfl) ?_
  refine lv_aload_n hx hb dL_law_174 rfl (lv_at hl 5 rfl) ?_
  refine lv_iload hx hb dL_law_175 (lv_at hl 1 rfl) ?_
  refine lv_iconst (v := (1 : Int32)) hx hb dL_law_177 (by decide) ?_
  refine lv_iadd hx hb dL_law_178 ?_
  refine va_sld hx hb hX hbl hbA hS hi1 dL_law_179 ?_
  refine lv_aload_n hx hb dL_law_180 rfl (lv_at hl 5 rfl) ?_
  refine lv_iload hx hb dL_law_181 (lv_at hl 1 rfl) ?_
  refine lv_iconst (v := (2 : Int32)) hx hb dL_law_183 (by decide) ?_
  refine lv_iadd hx hb dL_law_184 ?_
  refine va_sld hx hb hX hbl hbA hS hi2 dL_law_185 ?_
  refine lv_i2l (v := (xs (i + (2 : Int32)).toNatClampNeg).toInt64) hx hb dL_law_186 rfl ?_
  refine lv_bipush (v := (32 : Int32)) hx hb dL_law_187 (by decide) ?_
  refine lv_lshl (v := (j_lshl (xs (i + (2 : Int32)).toNatClampNeg).toInt64 (32 : Int32))) hx hb dL_law_189 rfl ?_
  refine lv_aload_n hx hb dL_law_190 rfl (lv_at hl 5 rfl) ?_
  refine lv_iload hx hb dL_law_191 (lv_at hl 1 rfl) ?_
  refine lv_iconst (v := (3 : Int32)) hx hb dL_law_193 (by decide) ?_
  refine lv_iadd hx hb dL_law_194 ?_
  refine va_sld hx hb hX hbl hbA hS hi3 dL_law_195 ?_
  refine lv_i2l (v := (xs (i + (3 : Int32)).toNatClampNeg).toInt64) hx hb dL_law_196 rfl ?_
  refine lv_ldc2 (v := (4294967295 : Int64)) hx hb hown (hts _ qw_404) dL_law_197 ?_
  refine lv_land hx hb dL_law_200 ?_
  refine lv_lor hx hb dL_law_201 ?_
  have hPc := hP.sub (ws' := (Wm g0 g1 g2 cB cC v)) [2, 3, 4] rfl
  have hKc := hK.sub (tys' := [(cB, .long), (cC, .long)]) [1, 2] rfl
  have hDc := hD.sub (ws' := (Wm g0 g1 g2 cB cC v)) [2, 3, 4] (by decide) rfl
  refine wr_callv (wr := (Wc h0 h1 cA (h_set u (xs (i + (1 : Int32)).toNatClampNeg) ((j_lshl (xs (i + (2 : Int32)).toNatClampNeg).toInt64 (32 : Int32)) ||| ((xs (i + (3 : Int32)).toNatClampNeg).toInt64 &&& (4294967295 : Int64)))).2) ++ [(o0, .inl (cO, 1, .inr (.inl z)))]) (va_runV (As := [.int (xs (i + (1 : Int32)).toNatClampNeg), .long ((j_lshl (xs (i + (2 : Int32)).toNatClampNeg).toInt64 (32 : Int32)) ||| ((xs (i + (3 : Int32)).toNatClampNeg).toInt64 &&& (4294967295 : Int64)))]) (rest := []) ⟨hx, hb, hml, hown, hts⟩ (mt_X4_set l dC dI g0 g1 g2 cB cC H.size v (xs (i + (1 : Int32)).toNatClampNeg) ((j_lshl (xs (i + (2 : Int32)).toNatClampNeg).toInt64 (32 : Int32)) ||| ((xs (i + (3 : Int32)).toNatClampNeg).toInt64 &&& (4294967295 : Int64)))) (cwV 2 hts gL_50_X4_set rfl rfl rfl (by decide +kernel) ⟨Nat.le_of_ble_eq_true rfl, Nat.le_of_ble_eq_true rfl⟩) (wr_V hKc hPc hDc (ci := 1) (q0 := 0) rfl rfl rfl) rfl rfl hl.1 rfl (lv_room (Nat.le_of_ble_eq_true rfl)) dL_law_202 ⟨hroom.1, Nat.le_trans (Nat.le_add_right _ 0) hroom.2⟩) hS hP hD hA [2, 3, 4] [0, 1, 5] rfl rfl (by decide) (by decide) (fun v_ H locs hw hP hD hS => ?_)
  subst hw
  refine W.eq (g2 := F0 m 205 ls []) rfl ?_
  have hP : va_P (dC, dI) vwCl (Wz h0 h1 cA g0 g1 g2 cB cC o0 cO (h_set u (xs (i + (1 : Int32)).toNatClampNeg) ((j_lshl (xs (i + (2 : Int32)).toNatClampNeg).toInt64 (32 : Int32)) ||| ((xs (i + (3 : Int32)).toNatClampNeg).toInt64 &&& (4294967295 : Int64)))).2 (f_X4_set v (xs (i + (1 : Int32)).toNatClampNeg) ((j_lshl (xs (i + (2 : Int32)).toNatClampNeg).toInt64 (32 : Int32)) ||| ((xs (i + (3 : Int32)).toNatClampNeg).toInt64 &&& (4294967295 : Int64)))) z) H := hP.sub (ws' := (Wz h0 h1 cA g0 g1 g2 cB cC o0 cO (h_set u (xs (i + (1 : Int32)).toNatClampNeg) ((j_lshl (xs (i + (2 : Int32)).toNatClampNeg).toInt64 (32 : Int32)) ||| ((xs (i + (3 : Int32)).toNatClampNeg).toInt64 &&& (4294967295 : Int64)))).2 (f_X4_set v (xs (i + (1 : Int32)).toNatClampNeg) ((j_lshl (xs (i + (2 : Int32)).toNatClampNeg).toInt64 (32 : Int32)) ||| ((xs (i + (3 : Int32)).toNatClampNeg).toInt64 &&& (4294967295 : Int64)))) z)) [0, 1, 3, 4, 5, 2] rfl
  have hD : va_D (fun q : Nat => s.heap.size ≤ q) (Wz h0 h1 cA g0 g1 g2 cB cC o0 cO (h_set u (xs (i + (1 : Int32)).toNatClampNeg) ((j_lshl (xs (i + (2 : Int32)).toNatClampNeg).toInt64 (32 : Int32)) ||| ((xs (i + (3 : Int32)).toNatClampNeg).toInt64 &&& (4294967295 : Int64)))).2 (f_X4_set v (xs (i + (1 : Int32)).toNatClampNeg) ((j_lshl (xs (i + (2 : Int32)).toNatClampNeg).toInt64 (32 : Int32)) ||| ((xs (i + (3 : Int32)).toNatClampNeg).toInt64 &&& (4294967295 : Int64)))) z) := hD.sub (ws' := (Wz h0 h1 cA g0 g1 g2 cB cC o0 cO (h_set u (xs (i + (1 : Int32)).toNatClampNeg) ((j_lshl (xs (i + (2 : Int32)).toNatClampNeg).toInt64 (32 : Int32)) ||| ((xs (i + (3 : Int32)).toNatClampNeg).toInt64 &&& (4294967295 : Int64)))).2 (f_X4_set v (xs (i + (1 : Int32)).toNatClampNeg) ((j_lshl (xs (i + (2 : Int32)).toNatClampNeg).toInt64 (32 : Int32)) ||| ((xs (i + (3 : Int32)).toNatClampNeg).toInt64 &&& (4294967295 : Int64)))) z)) [0, 1, 3, 4, 5, 2] (by decide) rfl
  refine lv_aload_n hx hb dL_law_205 rfl (lv_at hl 3 rfl) ?_
  have hPc := hP.sub (ws' := (Wm g0 g1 g2 cB cC (f_X4_set v (xs (i + (1 : Int32)).toNatClampNeg) ((j_lshl (xs (i + (2 : Int32)).toNatClampNeg).toInt64 (32 : Int32)) ||| ((xs (i + (3 : Int32)).toNatClampNeg).toInt64 &&& (4294967295 : Int64)))))) [2, 3, 4] rfl
  have hKc := hK.sub (tys' := [(cB, .long), (cC, .long)]) [1, 2] rfl
  refine W.callV (W.runV (As := []) (rest := []) ⟨hx, hb, hml, hown, hts⟩ (mt_X4_thrown l dC dI g0 g1 g2 cB cC (f_X4_set v (xs (i + (1 : Int32)).toNatClampNeg) ((j_lshl (xs (i + (2 : Int32)).toNatClampNeg).toInt64 (32 : Int32)) ||| ((xs (i + (3 : Int32)).toNatClampNeg).toInt64 &&& (4294967295 : Int64)))) ) (cwV 0 hts gL_41_X4_thrown rfl rfl rfl (by decide +kernel) ⟨Nat.le_of_ble_eq_true rfl, Nat.le_of_ble_eq_true rfl⟩) (rd_V hKc hPc (ci := 1) (q0 := 0) rfl rfl rfl) rfl rfl hl.1 rfl (lv_room (Nat.le_of_ble_eq_true rfl)) dL_law_206 ⟨hroom.1, Nat.le_trans (Nat.le_add_right _ 0) hroom.2⟩) ?_
  refine W.eq (g2 := F0 m 209 ls [.int (f_X4_thrown (f_X4_set v (xs (i + (1 : Int32)).toNatClampNeg) ((j_lshl (xs (i + (2 : Int32)).toNatClampNeg).toInt64 (32 : Int32)) ||| ((xs (i + (3 : Int32)).toNatClampNeg).toInt64 &&& (4294967295 : Int64)))))]) rfl ?_
  refine lv_iload hx hb dL_law_209 (lv_at hl 0 rfl) ?_
  refine lv_icmp_eq (tgt := 216) hx hb dL_law_211 (by decide) (fun c1 => ?_) (fun c1 => ?_)
  · refine lv_goto (tgt := 512) hx hb dL_law_216 (by decide) ?_
    refine W.widen (k := cells + 1) (n := slots + 6) (by omega) (by omega) ?_
    exact K9 _ _ _ _ _ _ (tie_set u v _ _ hSim).2 (lv_sub hl [1, 2, 3, 4, 5] rfl) hP hD hS
  · refine lv_iconst (v := (0 : Int32)) hx hb dL_law_214 (by decide) ?_
    exact absurd (tie_set u v _ _ hSim).1 c1

set_option maxHeartbeats 4000000 in
set_option maxRecDepth 100000 in
theorem lw_case2 {p : Program} {l : Launch} {e : Env} {s : State} {m : MethodId} {below : List Frame} {meth : Method} {c : Code} {b L : Nat} {xs : Nat → Int32} {dC : Nat → ClassId} {dI : Nat → Nat → Nat} {h0 h1 g0 g1 g2 o0 : Nat} {cA cB cC cO : ClassId} (C9 : lw_C p l s m c b L xs dC dI cA cB cC cO) {i : Int32} (hi0 : vp_in i L) (hi1 : vp_in (i + (1 : Int32)) L) (hi2 : vp_in (i + (2 : Int32)) L) (hi3 : vp_in (i + (3 : Int32)) L) {u : ScT} {v : SmT} {z : Nat → Int64} {H : Heap} {locs : List Loc} {ls : Array Slot} {cells slots : Nat} (hroom : cells + 1 ≤ room_1.cells ∧ slots + 6 ≤ room_1.slots) (hSim : Sim u v) (hl : lv_has ls 8 [(4, .int i), (3, .ref o0), (2, .ref g0), (1, .ref h0), (0, .ref b)]) (hP : va_P (dC, dI) vwCl (Wz h0 h1 cA g0 g1 g2 cB cC o0 cO u v z) H) (hD : va_D (fun q : Nat => s.heap.size ≤ q) (Wz h0 h1 cA g0 g1 g2 cB cC o0 cO u v z)) (hS : va_S (fun q : Nat => s.heap.size ≤ q) s.heap H locs) (K9 : ∀ (u' : ScT) (v' : SmT) (z' : Nat → Int64) (H' : Heap) (locs' : List Loc) (ls' : Array Slot), Sim u' v' → lv_has ls' 8 [(4, .int i), (3, .ref o0), (2, .ref g0), (1, .ref h0), (0, .ref b)] → va_P (dC, dI) vwCl (Wz h0 h1 cA g0 g1 g2 cB cC o0 cO u' v' z') H' → va_D (fun q : Nat => s.heap.size ≤ q) (Wz h0 h1 cA g0 g1 g2 cB cC o0 cO u' v' z') → va_S (fun q : Nat => s.heap.size ≤ q) s.heap H' locs' → W p l e room_1 s m #[Value.ref b] below meth c H' locs' (cells + 1) (slots + 6) (lw_Z below #[Value.ref b] s) (F0 m 512 ls' [])) : W p l e room_1 s m #[Value.ref b] below meth c H locs cells slots (lw_Z below #[Value.ref b] s) (F0 m 219 ls []) := by
  obtain ⟨hx, hb, hml, hown, hts, hX, hbl, hl9, hT, hK⟩ := id C9
  have hA : ∀ q : Nat, s.heap.size ≤ q → (fun q : Nat => s.heap.size ≤ q) q := fun _ h => h
  have hbA : ¬ (fun q : Nat => s.heap.size ≤ q) b := Nat.not_le.mpr hbl
  refine lv_aload_n hx hb dL_law_219 rfl (lv_at hl 3 rfl) ?_
  have hPc := hP.sub (ws' := (Wc h0 h1 cA u)) [0, 1] rfl
  have hKc := hK.sub (tys' := [(cA, .long)]) [0] rfl
  refine W.callV (W.runV (As := []) (rest := []) ⟨hx, hb, hml, hown, hts⟩ (mt_X3_counter l dC dI h0 h1 cA u ) (cwV 0 hts gL_51_X3_counter rfl rfl rfl (by decide +kernel) ⟨Nat.le_of_ble_eq_true rfl, Nat.le_of_ble_eq_true rfl⟩) (rd_V hKc hPc (ci := 0) (q0 := 0) rfl rfl rfl) rfl rfl hl.1 rfl (lv_room (Nat.le_of_ble_eq_true rfl)) dL_law_220 ⟨Nat.le_of_lt hroom.1, Nat.le_trans (Nat.le_add_right _ 6) hroom.2⟩) ?_
  refine W.eq (g2 := F0 m 223 ls [.long (f_X3_counter u)]) rfl ?_
  refine lv_aload_n hx hb dL_law_223 rfl (lv_at hl 2 rfl) ?_
  have hPc := hP.sub (ws' := (Wm g0 g1 g2 cB cC v)) [2, 3, 4] rfl
  have hKc := hK.sub (tys' := [(cB, .long), (cC, .long)]) [1, 2] rfl
  have hDc := hD.sub (ws' := (Wm g0 g1 g2 cB cC v)) [2, 3, 4] (by decide) rfl
  refine wr_calll (wr := (Wc h0 h1 cA u) ++ [(o0, .inl (cO, 1, .inr (.inl z)))]) (va_runV (As := []) (rest := [.long (f_X3_counter u)]) ⟨hx, hb, hml, hown, hts⟩ (mt_X4_counter l dC dI g0 g1 g2 cB cC H.size v ) (cwV 0 hts gL_55_X4_counter rfl rfl rfl (by decide +kernel) ⟨Nat.le_of_ble_eq_true rfl, Nat.le_of_ble_eq_true rfl⟩) (wr_V hKc hPc hDc (ci := 1) (q0 := 0) rfl rfl rfl) rfl rfl hl.1 rfl (lv_room (Nat.le_of_ble_eq_true rfl)) dL_law_224 ⟨Nat.le_of_lt hroom.1, Nat.le_trans (Nat.le_add_right _ 6) hroom.2⟩) hS hP hD hA [2, 3, 4] [0, 1, 5] rfl rfl (by decide) (by decide) (fun r_ v_ H locs hw hP hD hS => ?_)
  obtain ⟨rfl, rfl⟩ := hw
  refine W.eq (g2 := F0 m 227 ls [.long (f_X4_counter v).1, .long (f_X3_counter u)]) rfl ?_
  have hP : va_P (dC, dI) vwCl (Wz h0 h1 cA g0 g1 g2 cB cC o0 cO u (f_X4_counter v).2 z) H := hP.sub (ws' := (Wz h0 h1 cA g0 g1 g2 cB cC o0 cO u (f_X4_counter v).2 z)) [0, 1, 3, 4, 5, 2] rfl
  have hD : va_D (fun q : Nat => s.heap.size ≤ q) (Wz h0 h1 cA g0 g1 g2 cB cC o0 cO u (f_X4_counter v).2 z) := hD.sub (ws' := (Wz h0 h1 cA g0 g1 g2 cB cC o0 cO u (f_X4_counter v).2 z)) [0, 1, 3, 4, 5, 2] (by decide) rfl
  refine W.lcmp hx hb dL_law_227 ?_
  refine lv_if_eq (tgt := 512) hx hb dL_law_228 (by decide) (fun c1 => ?_) (fun c1 => ?_)
  · have c1 := (lg_cmp_eq (f_X3_counter u) (f_X4_counter v).1).mp c1
    refine W.widen (k := cells + 1) (n := slots + 6) (by omega) (by omega) ?_
    exact K9 _ _ _ _ _ _ (tie_counter u v hSim).2 (lv_sub hl [0, 1, 2, 3, 4] rfl) hP hD hS
  · have c1 := mt (lg_cmp_eq (f_X3_counter u) (f_X4_counter v).1).mpr c1
    refine lv_iconst (v := (0 : Int32)) hx hb dL_law_231 (by decide) ?_
    exact absurd (tie_counter u v hSim).1 c1

set_option maxHeartbeats 4000000 in
set_option maxRecDepth 100000 in
theorem lw_case3 {p : Program} {l : Launch} {e : Env} {s : State} {m : MethodId} {below : List Frame} {meth : Method} {c : Code} {b L : Nat} {xs : Nat → Int32} {dC : Nat → ClassId} {dI : Nat → Nat → Nat} {h0 h1 g0 g1 g2 o0 : Nat} {cA cB cC cO : ClassId} (C9 : lw_C p l s m c b L xs dC dI cA cB cC cO) {i : Int32} (hi0 : vp_in i L) (hi1 : vp_in (i + (1 : Int32)) L) (hi2 : vp_in (i + (2 : Int32)) L) (hi3 : vp_in (i + (3 : Int32)) L) {u : ScT} {v : SmT} {z : Nat → Int64} {H : Heap} {locs : List Loc} {ls : Array Slot} {cells slots : Nat} (hroom : cells + 1 ≤ room_1.cells ∧ slots + 6 ≤ room_1.slots) (hSim : Sim u v) (hl : lv_has ls 8 [(4, .int i), (3, .ref o0), (2, .ref g0), (1, .ref h0), (0, .ref b)]) (hP : va_P (dC, dI) vwCl (Wz h0 h1 cA g0 g1 g2 cB cC o0 cO u v z) H) (hD : va_D (fun q : Nat => s.heap.size ≤ q) (Wz h0 h1 cA g0 g1 g2 cB cC o0 cO u v z)) (hS : va_S (fun q : Nat => s.heap.size ≤ q) s.heap H locs) (K9 : ∀ (u' : ScT) (v' : SmT) (z' : Nat → Int64) (H' : Heap) (locs' : List Loc) (ls' : Array Slot), Sim u' v' → lv_has ls' 8 [(4, .int i), (3, .ref o0), (2, .ref g0), (1, .ref h0), (0, .ref b)] → va_P (dC, dI) vwCl (Wz h0 h1 cA g0 g1 g2 cB cC o0 cO u' v' z') H' → va_D (fun q : Nat => s.heap.size ≤ q) (Wz h0 h1 cA g0 g1 g2 cB cC o0 cO u' v' z') → va_S (fun q : Nat => s.heap.size ≤ q) s.heap H' locs' → W p l e room_1 s m #[Value.ref b] below meth c H' locs' (cells + 1) (slots + 6) (lw_Z below #[Value.ref b] s) (F0 m 512 ls' [])) : W p l e room_1 s m #[Value.ref b] below meth c H locs cells slots (lw_Z below #[Value.ref b] s) (F0 m 233 ls []) := by
  obtain ⟨hx, hb, hml, hown, hts, hX, hbl, hl9, hT, hK⟩ := id C9
  have hA : ∀ q : Nat, s.heap.size ≤ q → (fun q : Nat => s.heap.size ≤ q) q := fun _ h => h
  have hbA : ¬ (fun q : Nat => s.heap.size ≤ q) b := Nat.not_le.mpr hbl
  refine lv_aload_n hx hb dL_law_233 rfl (lv_at hl 3 rfl) ?_
  refine lv_aload_n hx hb dL_law_234 rfl (lv_at hl 4 rfl) ?_
  refine lv_iload hx hb dL_law_235 (lv_at hl 0 rfl) ?_
  refine lv_iconst (v := (1 : Int32)) hx hb dL_law_237 (by decide) ?_
  refine lv_iadd hx hb dL_law_238 ?_
  refine va_sld hx hb hX hbl hbA hS hi1 dL_law_239 ?_
  refine lv_i2l (v := (xs (i + (1 : Int32)).toNatClampNeg).toInt64) hx hb dL_law_240 rfl ?_
  refine lv_bipush (v := (32 : Int32)) hx hb dL_law_241 (by decide) ?_
  refine lv_lshl (v := (j_lshl (xs (i + (1 : Int32)).toNatClampNeg).toInt64 (32 : Int32))) hx hb dL_law_243 rfl ?_
  refine lv_aload_n hx hb dL_law_244 rfl (lv_at hl 4 rfl) ?_
  refine lv_iload hx hb dL_law_245 (lv_at hl 0 rfl) ?_
  refine lv_iconst (v := (2 : Int32)) hx hb dL_law_247 (by decide) ?_
  refine lv_iadd hx hb dL_law_248 ?_
  refine va_sld hx hb hX hbl hbA hS hi2 dL_law_249 ?_
  refine lv_i2l (v := (xs (i + (2 : Int32)).toNatClampNeg).toInt64) hx hb dL_law_250 rfl ?_
  refine lv_ldc2 (v := (4294967295 : Int64)) hx hb hown (hts _ qw_404) dL_law_251 ?_
  refine lv_land hx hb dL_law_254 ?_
  refine lv_lor hx hb dL_law_255 ?_
  have hPc := hP.sub (ws' := (Wc h0 h1 cA u)) [0, 1] rfl
  have hKc := hK.sub (tys' := [(cA, .long)]) [0] rfl
  have hDc := hD.sub (ws' := (Wc h0 h1 cA u)) [0, 1] (by decide) rfl
  refine wr_callv (wr := (Wm g0 g1 g2 cB cC v) ++ [(o0, .inl (cO, 1, .inr (.inl z)))]) (va_runV (As := [.long ((j_lshl (xs (i + (1 : Int32)).toNatClampNeg).toInt64 (32 : Int32)) ||| ((xs (i + (2 : Int32)).toNatClampNeg).toInt64 &&& (4294967295 : Int64)))]) (rest := []) ⟨hx, hb, hml, hown, hts⟩ (mt_X3_jump l dC dI h0 h1 cA H.size u ((j_lshl (xs (i + (1 : Int32)).toNatClampNeg).toInt64 (32 : Int32)) ||| ((xs (i + (2 : Int32)).toNatClampNeg).toInt64 &&& (4294967295 : Int64)))) (cwV 1 hts gL_56_X3_jump rfl rfl rfl (by decide +kernel) ⟨Nat.le_of_ble_eq_true rfl, Nat.le_of_ble_eq_true rfl⟩) (wr_V hKc hPc hDc (ci := 0) (q0 := 0) rfl rfl rfl) rfl rfl hl.1 rfl (lv_room (Nat.le_of_ble_eq_true rfl)) dL_law_256 ⟨Nat.le_of_lt hroom.1, Nat.le_trans (Nat.le_add_right _ 6) hroom.2⟩) hS hP hD hA [0, 1] [2, 3, 4, 5] rfl rfl (by decide) (by decide) (fun v_ H locs hw hP hD hS => ?_)
  subst hw
  refine W.eq (g2 := F0 m 259 ls []) rfl ?_
  have hP : va_P (dC, dI) vwCl (Wz h0 h1 cA g0 g1 g2 cB cC o0 cO (f_X3_jump u ((j_lshl (xs (i + (1 : Int32)).toNatClampNeg).toInt64 (32 : Int32)) ||| ((xs (i + (2 : Int32)).toNatClampNeg).toInt64 &&& (4294967295 : Int64)))) v z) H := hP.sub (ws' := (Wz h0 h1 cA g0 g1 g2 cB cC o0 cO (f_X3_jump u ((j_lshl (xs (i + (1 : Int32)).toNatClampNeg).toInt64 (32 : Int32)) ||| ((xs (i + (2 : Int32)).toNatClampNeg).toInt64 &&& (4294967295 : Int64)))) v z)) [4, 5, 0, 1, 2, 3] rfl
  have hD : va_D (fun q : Nat => s.heap.size ≤ q) (Wz h0 h1 cA g0 g1 g2 cB cC o0 cO (f_X3_jump u ((j_lshl (xs (i + (1 : Int32)).toNatClampNeg).toInt64 (32 : Int32)) ||| ((xs (i + (2 : Int32)).toNatClampNeg).toInt64 &&& (4294967295 : Int64)))) v z) := hD.sub (ws' := (Wz h0 h1 cA g0 g1 g2 cB cC o0 cO (f_X3_jump u ((j_lshl (xs (i + (1 : Int32)).toNatClampNeg).toInt64 (32 : Int32)) ||| ((xs (i + (2 : Int32)).toNatClampNeg).toInt64 &&& (4294967295 : Int64)))) v z)) [4, 5, 0, 1, 2, 3] (by decide) rfl
  refine lv_aload_n hx hb dL_law_259 rfl (lv_at hl 2 rfl) ?_
  refine lv_aload_n hx hb dL_law_260 rfl (lv_at hl 4 rfl) ?_
  refine lv_iload hx hb dL_law_261 (lv_at hl 0 rfl) ?_
  refine lv_iconst (v := (1 : Int32)) hx hb dL_law_263 (by decide) ?_
  refine lv_iadd hx hb dL_law_264 ?_
  refine va_sld hx hb hX hbl hbA hS hi1 dL_law_265 ?_
  refine lv_i2l (v := (xs (i + (1 : Int32)).toNatClampNeg).toInt64) hx hb dL_law_266 rfl ?_
  refine lv_bipush (v := (32 : Int32)) hx hb dL_law_267 (by decide) ?_
  refine lv_lshl (v := (j_lshl (xs (i + (1 : Int32)).toNatClampNeg).toInt64 (32 : Int32))) hx hb dL_law_269 rfl ?_
  refine lv_aload_n hx hb dL_law_270 rfl (lv_at hl 4 rfl) ?_
  refine lv_iload hx hb dL_law_271 (lv_at hl 0 rfl) ?_
  refine lv_iconst (v := (2 : Int32)) hx hb dL_law_273 (by decide) ?_
  refine lv_iadd hx hb dL_law_274 ?_
  refine va_sld hx hb hX hbl hbA hS hi2 dL_law_275 ?_
  refine lv_i2l (v := (xs (i + (2 : Int32)).toNatClampNeg).toInt64) hx hb dL_law_276 rfl ?_
  refine lv_ldc2 (v := (4294967295 : Int64)) hx hb hown (hts _ qw_404) dL_law_277 ?_
  refine lv_land hx hb dL_law_280 ?_
  refine lv_lor hx hb dL_law_281 ?_
  have hPc := hP.sub (ws' := (Wm g0 g1 g2 cB cC v)) [2, 3, 4] rfl
  have hKc := hK.sub (tys' := [(cB, .long), (cC, .long)]) [1, 2] rfl
  have hDc := hD.sub (ws' := (Wm g0 g1 g2 cB cC v)) [2, 3, 4] (by decide) rfl
  refine wr_callv (wr := (Wc h0 h1 cA (f_X3_jump u ((j_lshl (xs (i + (1 : Int32)).toNatClampNeg).toInt64 (32 : Int32)) ||| ((xs (i + (2 : Int32)).toNatClampNeg).toInt64 &&& (4294967295 : Int64))))) ++ [(o0, .inl (cO, 1, .inr (.inl z)))]) (va_runV (As := [.long ((j_lshl (xs (i + (1 : Int32)).toNatClampNeg).toInt64 (32 : Int32)) ||| ((xs (i + (2 : Int32)).toNatClampNeg).toInt64 &&& (4294967295 : Int64)))]) (rest := []) ⟨hx, hb, hml, hown, hts⟩ (mt_X4_jump l dC dI g0 g1 g2 cB cC H.size v ((j_lshl (xs (i + (1 : Int32)).toNatClampNeg).toInt64 (32 : Int32)) ||| ((xs (i + (2 : Int32)).toNatClampNeg).toInt64 &&& (4294967295 : Int64)))) (cwV 1 hts gL_60_X4_jump rfl rfl rfl (by decide +kernel) ⟨Nat.le_of_ble_eq_true rfl, Nat.le_of_ble_eq_true rfl⟩) (wr_V hKc hPc hDc (ci := 1) (q0 := 0) rfl rfl rfl) rfl rfl hl.1 rfl (lv_room (Nat.le_of_ble_eq_true rfl)) dL_law_282 ⟨Nat.le_of_lt hroom.1, Nat.le_trans (Nat.le_add_right _ 6) hroom.2⟩) hS hP hD hA [2, 3, 4] [0, 1, 5] rfl rfl (by decide) (by decide) (fun v_ H locs hw hP hD hS => ?_)
  subst hw
  refine W.eq (g2 := F0 m 285 ls []) rfl ?_
  have hP : va_P (dC, dI) vwCl (Wz h0 h1 cA g0 g1 g2 cB cC o0 cO (f_X3_jump u ((j_lshl (xs (i + (1 : Int32)).toNatClampNeg).toInt64 (32 : Int32)) ||| ((xs (i + (2 : Int32)).toNatClampNeg).toInt64 &&& (4294967295 : Int64)))) (f_X4_jump v ((j_lshl (xs (i + (1 : Int32)).toNatClampNeg).toInt64 (32 : Int32)) ||| ((xs (i + (2 : Int32)).toNatClampNeg).toInt64 &&& (4294967295 : Int64)))) z) H := hP.sub (ws' := (Wz h0 h1 cA g0 g1 g2 cB cC o0 cO (f_X3_jump u ((j_lshl (xs (i + (1 : Int32)).toNatClampNeg).toInt64 (32 : Int32)) ||| ((xs (i + (2 : Int32)).toNatClampNeg).toInt64 &&& (4294967295 : Int64)))) (f_X4_jump v ((j_lshl (xs (i + (1 : Int32)).toNatClampNeg).toInt64 (32 : Int32)) ||| ((xs (i + (2 : Int32)).toNatClampNeg).toInt64 &&& (4294967295 : Int64)))) z)) [0, 1, 3, 4, 5, 2] rfl
  have hD : va_D (fun q : Nat => s.heap.size ≤ q) (Wz h0 h1 cA g0 g1 g2 cB cC o0 cO (f_X3_jump u ((j_lshl (xs (i + (1 : Int32)).toNatClampNeg).toInt64 (32 : Int32)) ||| ((xs (i + (2 : Int32)).toNatClampNeg).toInt64 &&& (4294967295 : Int64)))) (f_X4_jump v ((j_lshl (xs (i + (1 : Int32)).toNatClampNeg).toInt64 (32 : Int32)) ||| ((xs (i + (2 : Int32)).toNatClampNeg).toInt64 &&& (4294967295 : Int64)))) z) := hD.sub (ws' := (Wz h0 h1 cA g0 g1 g2 cB cC o0 cO (f_X3_jump u ((j_lshl (xs (i + (1 : Int32)).toNatClampNeg).toInt64 (32 : Int32)) ||| ((xs (i + (2 : Int32)).toNatClampNeg).toInt64 &&& (4294967295 : Int64)))) (f_X4_jump v ((j_lshl (xs (i + (1 : Int32)).toNatClampNeg).toInt64 (32 : Int32)) ||| ((xs (i + (2 : Int32)).toNatClampNeg).toInt64 &&& (4294967295 : Int64)))) z)) [0, 1, 3, 4, 5, 2] (by decide) rfl
  refine lv_goto (tgt := 512) hx hb dL_law_285 (by decide) ?_
  refine W.widen (k := cells + 1) (n := slots + 6) (by omega) (by omega) ?_
  exact K9 _ _ _ _ _ _ (tie_jump u v _ hSim) (lv_sub hl [0, 1, 2, 3, 4] rfl) hP hD hS

set_option maxHeartbeats 4000000 in
set_option maxRecDepth 100000 in
theorem lw_case4 {p : Program} {l : Launch} {e : Env} {s : State} {m : MethodId} {below : List Frame} {meth : Method} {c : Code} {b L : Nat} {xs : Nat → Int32} {dC : Nat → ClassId} {dI : Nat → Nat → Nat} {h0 h1 g0 g1 g2 o0 : Nat} {cA cB cC cO : ClassId} (C9 : lw_C p l s m c b L xs dC dI cA cB cC cO) {i : Int32} (hi0 : vp_in i L) (hi1 : vp_in (i + (1 : Int32)) L) (hi2 : vp_in (i + (2 : Int32)) L) (hi3 : vp_in (i + (3 : Int32)) L) {u : ScT} {v : SmT} {z : Nat → Int64} {H : Heap} {locs : List Loc} {ls : Array Slot} {cells slots : Nat} (hroom : cells + 1 ≤ room_1.cells ∧ slots + 6 ≤ room_1.slots) (hSim : Sim u v) (hl : lv_has ls 8 [(4, .int i), (3, .ref o0), (2, .ref g0), (1, .ref h0), (0, .ref b)]) (hP : va_P (dC, dI) vwCl (Wz h0 h1 cA g0 g1 g2 cB cC o0 cO u v z) H) (hD : va_D (fun q : Nat => s.heap.size ≤ q) (Wz h0 h1 cA g0 g1 g2 cB cC o0 cO u v z)) (hS : va_S (fun q : Nat => s.heap.size ≤ q) s.heap H locs) (K9 : ∀ (u' : ScT) (v' : SmT) (z' : Nat → Int64) (H' : Heap) (locs' : List Loc) (ls' : Array Slot), Sim u' v' → lv_has ls' 8 [(4, .int i), (3, .ref o0), (2, .ref g0), (1, .ref h0), (0, .ref b)] → va_P (dC, dI) vwCl (Wz h0 h1 cA g0 g1 g2 cB cC o0 cO u' v' z') H' → va_D (fun q : Nat => s.heap.size ≤ q) (Wz h0 h1 cA g0 g1 g2 cB cC o0 cO u' v' z') → va_S (fun q : Nat => s.heap.size ≤ q) s.heap H' locs' → W p l e room_1 s m #[Value.ref b] below meth c H' locs' (cells + 1) (slots + 6) (lw_Z below #[Value.ref b] s) (F0 m 512 ls' [])) : W p l e room_1 s m #[Value.ref b] below meth c H locs cells slots (lw_Z below #[Value.ref b] s) (F0 m 288 ls []) := by
  obtain ⟨hx, hb, hml, hown, hts, hX, hbl, hl9, hT, hK⟩ := id C9
  have hA : ∀ q : Nat, s.heap.size ≤ q → (fun q : Nat => s.heap.size ≤ q) q := fun _ h => h
  have hbA : ¬ (fun q : Nat => s.heap.size ≤ q) b := Nat.not_le.mpr hbl
  refine lv_aload_n hx hb dL_law_288 rfl (lv_at hl 3 rfl) ?_
  refine lv_aload_n hx hb dL_law_289 rfl (lv_at hl 4 rfl) ?_
  refine lv_iload hx hb dL_law_290 (lv_at hl 0 rfl) ?_
  refine lv_iconst (v := (1 : Int32)) hx hb dL_law_292 (by decide) ?_
  refine lv_iadd hx hb dL_law_293 ?_
  refine va_sld hx hb hX hbl hbA hS hi1 dL_law_294 ?_
  refine lv_aload_n hx hb dL_law_295 rfl (lv_at hl 4 rfl) ?_
  refine lv_iload hx hb dL_law_296 (lv_at hl 0 rfl) ?_
  refine lv_iconst (v := (2 : Int32)) hx hb dL_law_298 (by decide) ?_
  refine lv_iadd hx hb dL_law_299 ?_
  refine va_sld hx hb hX hbl hbA hS hi2 dL_law_300 ?_
  refine lv_aload_n hx hb dL_law_301 rfl (lv_at hl 1 rfl) ?_
  have hF := va_free (wc := (Wl h0 h1 cA o0 cO (u, z))) hD hS hA [0, 1, 5] rfl
  have hPc := hP.sub (ws' := (Wl h0 h1 cA o0 cO (u, z))) [0, 1, 5] rfl
  have hDc := hD.sub (ws' := (Wl h0 h1 cA o0 cO (u, z))) [0, 1, 5] (by decide) rfl
  have hKc := hK.sub (tys' := [(cA, .long), (cO, .long)]) [0, 3] rfl
  refine wr_calli (wr := (Wm g0 g1 g2 cB cC v)) (vx_runSW (As := [.ref h0, .int (xs (i + (1 : Int32)).toNatClampNeg), .int (xs (i + (2 : Int32)).toNatClampNeg), .ref o0]) (rest := []) ⟨hx, hb, hml, hown, hts⟩ (mt_L_run l hl9 dC dI h0 h1 cA o0 cO H.size u z (xs (i + (1 : Int32)).toNatClampNeg) (xs (i + (2 : Int32)).toNatClampNeg)) (vx_cwSW 4 hts gL_61_L_run rfl rfl rfl (by decide +kernel) ⟨Nat.le_of_ble_eq_true rfl, Nat.le_of_ble_eq_true rfl⟩) (tw_S hKc hPc hDc hT hS hF) rfl rfl hl.1 rfl (lv_room (Nat.le_of_ble_eq_true rfl)) dL_law_302 hroom) hS hP hD hA [0, 1, 5] [2, 3, 4] rfl rfl (by decide) (by decide) (fun r_ v_ H locs hw hP hD hS => ?_)
  obtain ⟨rfl, rfl⟩ := hw
  refine W.eq (g2 := F0 m 305 ls [.int (h_run u z (xs (i + (1 : Int32)).toNatClampNeg) (xs (i + (2 : Int32)).toNatClampNeg)).1]) rfl ?_
  have hP : va_P (dC, dI) vwCl (Wz h0 h1 cA g0 g1 g2 cB cC o0 cO (h_run u z (xs (i + (1 : Int32)).toNatClampNeg) (xs (i + (2 : Int32)).toNatClampNeg)).2.1 v (h_run u z (xs (i + (1 : Int32)).toNatClampNeg) (xs (i + (2 : Int32)).toNatClampNeg)).2.2) H := hP.sub (ws' := (Wz h0 h1 cA g0 g1 g2 cB cC o0 cO (h_run u z (xs (i + (1 : Int32)).toNatClampNeg) (xs (i + (2 : Int32)).toNatClampNeg)).2.1 v (h_run u z (xs (i + (1 : Int32)).toNatClampNeg) (xs (i + (2 : Int32)).toNatClampNeg)).2.2)) [3, 4, 0, 1, 2, 5] rfl
  have hD : va_D (fun q : Nat => s.heap.size ≤ q) (Wz h0 h1 cA g0 g1 g2 cB cC o0 cO (h_run u z (xs (i + (1 : Int32)).toNatClampNeg) (xs (i + (2 : Int32)).toNatClampNeg)).2.1 v (h_run u z (xs (i + (1 : Int32)).toNatClampNeg) (xs (i + (2 : Int32)).toNatClampNeg)).2.2) := hD.sub (ws' := (Wz h0 h1 cA g0 g1 g2 cB cC o0 cO (h_run u z (xs (i + (1 : Int32)).toNatClampNeg) (xs (i + (2 : Int32)).toNatClampNeg)).2.1 v (h_run u z (xs (i + (1 : Int32)).toNatClampNeg) (xs (i + (2 : Int32)).toNatClampNeg)).2.2)) [3, 4, 0, 1, 2, 5] (by decide) rfl
  refine lv_istore (lv' := [(5, .int (h_run u z (xs (i + (1 : Int32)).toNatClampNeg) (xs (i + (2 : Int32)).toNatClampNeg)).1), (4, .int i), (3, .ref o0), (2, .ref g0), (1, .ref h0), (0, .ref b)]) hx hb dL_law_305 hl (by decide) rfl (fun ls hl => ?_)
  refine lv_aload_n hx hb dL_law_307 rfl (lv_at hl 3 rfl) ?_
  refine lv_aload_n hx hb dL_law_308 rfl (lv_at hl 5 rfl) ?_
  refine lv_iload hx hb dL_law_309 (lv_at hl 1 rfl) ?_
  refine lv_iconst (v := (1 : Int32)) hx hb dL_law_311 (by decide) ?_
  refine lv_iadd hx hb dL_law_312 ?_
  refine va_sld hx hb hX hbl hbA hS hi1 dL_law_313 ?_
  refine lv_aload_n hx hb dL_law_314 rfl (lv_at hl 5 rfl) ?_
  refine lv_iload hx hb dL_law_315 (lv_at hl 1 rfl) ?_
  refine lv_iconst (v := (2 : Int32)) hx hb dL_law_317 (by decide) ?_
  refine lv_iadd hx hb dL_law_318 ?_
  refine va_sld hx hb hX hbl hbA hS hi2 dL_law_319 ?_
  have hPc := hP.sub (ws' := (Wm g0 g1 g2 cB cC v)) [2, 3, 4] rfl
  have hKc := hK.sub (tys' := [(cB, .long), (cC, .long)]) [1, 2] rfl
  have hDc := hD.sub (ws' := (Wm g0 g1 g2 cB cC v)) [2, 3, 4] (by decide) rfl
  refine wr_calli (wr := (Wc h0 h1 cA (h_run u z (xs (i + (1 : Int32)).toNatClampNeg) (xs (i + (2 : Int32)).toNatClampNeg)).2.1) ++ [(o0, .inl (cO, 1, .inr (.inl (h_run u z (xs (i + (1 : Int32)).toNatClampNeg) (xs (i + (2 : Int32)).toNatClampNeg)).2.2)))]) (va_runV (As := [.int (xs (i + (1 : Int32)).toNatClampNeg), .int (xs (i + (2 : Int32)).toNatClampNeg)]) (rest := []) ⟨hx, hb, hml, hown, hts⟩ (mt_X4_run l dC dI g0 g1 g2 cB cC H.size v (xs (i + (1 : Int32)).toNatClampNeg) (xs (i + (2 : Int32)).toNatClampNeg)) (cwV 2 hts gL_64_X4_run rfl rfl rfl (by decide +kernel) ⟨Nat.le_of_ble_eq_true rfl, Nat.le_of_ble_eq_true rfl⟩) (wr_V hKc hPc hDc (ci := 1) (q0 := 0) rfl rfl rfl) rfl rfl hl.1 rfl (lv_room (Nat.le_of_ble_eq_true rfl)) dL_law_320 ⟨hroom.1, Nat.le_trans (Nat.le_add_right _ 0) hroom.2⟩) hS hP hD hA [2, 3, 4] [0, 1, 5] rfl rfl (by decide) (by decide) (fun r_ v_ H locs hw hP hD hS => ?_)
  obtain ⟨rfl, rfl⟩ := hw
  refine W.eq (g2 := F0 m 323 ls [.int (f_X4_run v (xs (i + (1 : Int32)).toNatClampNeg) (xs (i + (2 : Int32)).toNatClampNeg)).1]) rfl ?_
  have hP : va_P (dC, dI) vwCl (Wz h0 h1 cA g0 g1 g2 cB cC o0 cO (h_run u z (xs (i + (1 : Int32)).toNatClampNeg) (xs (i + (2 : Int32)).toNatClampNeg)).2.1 (f_X4_run v (xs (i + (1 : Int32)).toNatClampNeg) (xs (i + (2 : Int32)).toNatClampNeg)).2 (h_run u z (xs (i + (1 : Int32)).toNatClampNeg) (xs (i + (2 : Int32)).toNatClampNeg)).2.2) H := hP.sub (ws' := (Wz h0 h1 cA g0 g1 g2 cB cC o0 cO (h_run u z (xs (i + (1 : Int32)).toNatClampNeg) (xs (i + (2 : Int32)).toNatClampNeg)).2.1 (f_X4_run v (xs (i + (1 : Int32)).toNatClampNeg) (xs (i + (2 : Int32)).toNatClampNeg)).2 (h_run u z (xs (i + (1 : Int32)).toNatClampNeg) (xs (i + (2 : Int32)).toNatClampNeg)).2.2)) [0, 1, 3, 4, 5, 2] rfl
  have hD : va_D (fun q : Nat => s.heap.size ≤ q) (Wz h0 h1 cA g0 g1 g2 cB cC o0 cO (h_run u z (xs (i + (1 : Int32)).toNatClampNeg) (xs (i + (2 : Int32)).toNatClampNeg)).2.1 (f_X4_run v (xs (i + (1 : Int32)).toNatClampNeg) (xs (i + (2 : Int32)).toNatClampNeg)).2 (h_run u z (xs (i + (1 : Int32)).toNatClampNeg) (xs (i + (2 : Int32)).toNatClampNeg)).2.2) := hD.sub (ws' := (Wz h0 h1 cA g0 g1 g2 cB cC o0 cO (h_run u z (xs (i + (1 : Int32)).toNatClampNeg) (xs (i + (2 : Int32)).toNatClampNeg)).2.1 (f_X4_run v (xs (i + (1 : Int32)).toNatClampNeg) (xs (i + (2 : Int32)).toNatClampNeg)).2 (h_run u z (xs (i + (1 : Int32)).toNatClampNeg) (xs (i + (2 : Int32)).toNatClampNeg)).2.2)) [0, 1, 3, 4, 5, 2] (by decide) rfl
  refine lv_istore (lv' := [(6, .int (f_X4_run v (xs (i + (1 : Int32)).toNatClampNeg) (xs (i + (2 : Int32)).toNatClampNeg)).1), (5, .int (h_run u z (xs (i + (1 : Int32)).toNatClampNeg) (xs (i + (2 : Int32)).toNatClampNeg)).1), (4, .int i), (3, .ref o0), (2, .ref g0), (1, .ref h0), (0, .ref b)]) hx hb dL_law_323 hl (by decide) rfl (fun ls hl => ?_)
  refine lv_aload_n hx hb dL_law_325 rfl (lv_at hl 4 rfl) ?_
  have hPc := hP.sub (ws' := (Wm g0 g1 g2 cB cC (f_X4_run v (xs (i + (1 : Int32)).toNatClampNeg) (xs (i + (2 : Int32)).toNatClampNeg)).2)) [2, 3, 4] rfl
  have hKc := hK.sub (tys' := [(cB, .long), (cC, .long)]) [1, 2] rfl
  refine W.callV (W.runV (As := []) (rest := []) ⟨hx, hb, hml, hown, hts⟩ (mt_X4_thrown l dC dI g0 g1 g2 cB cC (f_X4_run v (xs (i + (1 : Int32)).toNatClampNeg) (xs (i + (2 : Int32)).toNatClampNeg)).2 ) (cwV 0 hts gL_41_X4_thrown rfl rfl rfl (by decide +kernel) ⟨Nat.le_of_ble_eq_true rfl, Nat.le_of_ble_eq_true rfl⟩) (rd_V hKc hPc (ci := 1) (q0 := 0) rfl rfl rfl) rfl rfl hl.1 rfl (lv_room (Nat.le_of_ble_eq_true rfl)) dL_law_326 ⟨hroom.1, Nat.le_trans (Nat.le_add_right _ 0) hroom.2⟩) ?_
  refine W.eq (g2 := F0 m 329 ls [.int (f_X4_thrown (f_X4_run v (xs (i + (1 : Int32)).toNatClampNeg) (xs (i + (2 : Int32)).toNatClampNeg)).2)]) rfl ?_
  refine lv_iload hx hb dL_law_329 (lv_at hl 1 rfl) ?_
  refine lv_icmp_eq (tgt := 336) hx hb dL_law_331 (by decide) (fun c1 => ?_) (fun c1 => ?_)
  · refine lv_iload hx hb dL_law_336 (lv_at hl 1 rfl) ?_
    refine lv_if_ne (tgt := 353) hx hb dL_law_338 (by decide) (fun c2 => ?_) (fun c2 => ?_)
    · refine lv_goto (tgt := 512) hx hb dL_law_353 (by decide) ?_
      refine W.widen (k := cells + 1) (n := slots + 6) (by omega) (by omega) ?_
      exact K9 _ _ _ _ _ _ (tie_run u v z _ _ hSim).2.2 (lv_sub hl [2, 3, 4, 5, 6] rfl) hP hD hS
    · refine lv_aload_n hx hb dL_law_341 rfl (lv_at hl 3 rfl) ?_
      refine lv_iconst (v := (0 : Int32)) hx hb dL_law_342 (by decide) ?_
      refine va_lald hx hb hK hP 5 3 rfl rfl (by unfold vp_in; decide) dL_law_343 ?_
      refine lv_iload hx hb dL_law_344 (lv_at hl 0 rfl) ?_
      refine lv_i2l (v := (f_X4_run v (xs (i + (1 : Int32)).toNatClampNeg) (xs (i + (2 : Int32)).toNatClampNeg)).1.toInt64) hx hb dL_law_346 rfl ?_
      refine W.lcmp hx hb dL_law_347 ?_
      refine lv_if_eq (tgt := 353) hx hb dL_law_348 (by decide) (fun c3 => ?_) (fun c3 => ?_)
      · have c3 := (lg_cmp_eq ((h_run u z (xs (i + (1 : Int32)).toNatClampNeg) (xs (i + (2 : Int32)).toNatClampNeg)).2.2 (0 : Int32).toNatClampNeg) (f_X4_run v (xs (i + (1 : Int32)).toNatClampNeg) (xs (i + (2 : Int32)).toNatClampNeg)).1.toInt64).mp c3
        refine lv_goto (tgt := 512) hx hb dL_law_353 (by decide) ?_
        refine W.widen (k := cells + 1) (n := slots + 6) (by omega) (by omega) ?_
        exact K9 _ _ _ _ _ _ (tie_run u v z _ _ hSim).2.2 (lv_sub hl [2, 3, 4, 5, 6] rfl) hP hD hS
      · have c3 := mt (lg_cmp_eq ((h_run u z (xs (i + (1 : Int32)).toNatClampNeg) (xs (i + (2 : Int32)).toNatClampNeg)).2.2 (0 : Int32).toNatClampNeg) (f_X4_run v (xs (i + (1 : Int32)).toNatClampNeg) (xs (i + (2 : Int32)).toNatClampNeg)).1.toInt64).mpr c3
        refine lv_iconst (v := (0 : Int32)) hx hb dL_law_351 (by decide) ?_
        exact absurd ((tie_run u v z _ _ hSim).2.1 c2) c3
  · refine lv_iconst (v := (0 : Int32)) hx hb dL_law_334 (by decide) ?_
    exact absurd (tie_run u v z _ _ hSim).1 c1

set_option maxHeartbeats 4000000 in
set_option maxRecDepth 100000 in
theorem lw_case5 {p : Program} {l : Launch} {e : Env} {s : State} {m : MethodId} {below : List Frame} {meth : Method} {c : Code} {b L : Nat} {xs : Nat → Int32} {dC : Nat → ClassId} {dI : Nat → Nat → Nat} {h0 h1 g0 g1 g2 o0 : Nat} {cA cB cC cO : ClassId} (C9 : lw_C p l s m c b L xs dC dI cA cB cC cO) {i : Int32} (hi0 : vp_in i L) (hi1 : vp_in (i + (1 : Int32)) L) (hi2 : vp_in (i + (2 : Int32)) L) (hi3 : vp_in (i + (3 : Int32)) L) {u : ScT} {v : SmT} {z : Nat → Int64} {H : Heap} {locs : List Loc} {ls : Array Slot} {cells slots : Nat} (hroom : cells + 1 ≤ room_1.cells ∧ slots + 6 ≤ room_1.slots) (hSim : Sim u v) (hl : lv_has ls 8 [(4, .int i), (3, .ref o0), (2, .ref g0), (1, .ref h0), (0, .ref b)]) (hP : va_P (dC, dI) vwCl (Wz h0 h1 cA g0 g1 g2 cB cC o0 cO u v z) H) (hD : va_D (fun q : Nat => s.heap.size ≤ q) (Wz h0 h1 cA g0 g1 g2 cB cC o0 cO u v z)) (hS : va_S (fun q : Nat => s.heap.size ≤ q) s.heap H locs) (K9 : ∀ (u' : ScT) (v' : SmT) (z' : Nat → Int64) (H' : Heap) (locs' : List Loc) (ls' : Array Slot), Sim u' v' → lv_has ls' 8 [(4, .int i), (3, .ref o0), (2, .ref g0), (1, .ref h0), (0, .ref b)] → va_P (dC, dI) vwCl (Wz h0 h1 cA g0 g1 g2 cB cC o0 cO u' v' z') H' → va_D (fun q : Nat => s.heap.size ≤ q) (Wz h0 h1 cA g0 g1 g2 cB cC o0 cO u' v' z') → va_S (fun q : Nat => s.heap.size ≤ q) s.heap H' locs' → W p l e room_1 s m #[Value.ref b] below meth c H' locs' (cells + 1) (slots + 6) (lw_Z below #[Value.ref b] s) (F0 m 512 ls' [])) : W p l e room_1 s m #[Value.ref b] below meth c H locs cells slots (lw_Z below #[Value.ref b] s) (F0 m 356 ls []) := by
  obtain ⟨hx, hb, hml, hown, hts, hX, hbl, hl9, hT, hK⟩ := id C9
  have hA : ∀ q : Nat, s.heap.size ≤ q → (fun q : Nat => s.heap.size ≤ q) q := fun _ h => h
  have hbA : ¬ (fun q : Nat => s.heap.size ≤ q) b := Nat.not_le.mpr hbl
  refine lv_aload_n hx hb dL_law_356 rfl (lv_at hl 3 rfl) ?_
  refine lv_aload_n hx hb dL_law_357 rfl (lv_at hl 4 rfl) ?_
  refine lv_iload hx hb dL_law_358 (lv_at hl 0 rfl) ?_
  refine lv_iconst (v := (1 : Int32)) hx hb dL_law_360 (by decide) ?_
  refine lv_iadd hx hb dL_law_361 ?_
  refine va_sld hx hb hX hbl hbA hS hi1 dL_law_362 ?_
  have hPc := hP.sub (ws' := (Wc h0 h1 cA u)) [0, 1] rfl
  have hKc := hK.sub (tys' := [(cA, .long)]) [0] rfl
  refine W.callV (W.runV (As := [.int (xs (i + (1 : Int32)).toNatClampNeg)]) (rest := []) ⟨hx, hb, hml, hown, hts⟩ (mt_X3_wanted l dC dI h0 h1 cA u (xs (i + (1 : Int32)).toNatClampNeg)) (cwV 1 hts gL_65_X3_wanted rfl rfl rfl (by decide +kernel) ⟨Nat.le_of_ble_eq_true rfl, Nat.le_of_ble_eq_true rfl⟩) (rd_V hKc hPc (ci := 0) (q0 := 0) rfl rfl rfl) rfl rfl hl.1 rfl (lv_room (Nat.le_of_ble_eq_true rfl)) dL_law_363 ⟨Nat.le_of_lt hroom.1, Nat.le_trans (Nat.le_add_right _ 6) hroom.2⟩) ?_
  refine W.eq (g2 := F0 m 366 ls [.long (f_X3_wanted u (xs (i + (1 : Int32)).toNatClampNeg))]) rfl ?_
  refine lv_aload_n hx hb dL_law_366 rfl (lv_at hl 2 rfl) ?_
  refine lv_aload_n hx hb dL_law_367 rfl (lv_at hl 4 rfl) ?_
  refine lv_iload hx hb dL_law_368 (lv_at hl 0 rfl) ?_
  refine lv_iconst (v := (1 : Int32)) hx hb dL_law_370 (by decide) ?_
  refine lv_iadd hx hb dL_law_371 ?_
  refine va_sld hx hb hX hbl hbA hS hi1 dL_law_372 ?_
  have hPc := hP.sub (ws' := (Wm g0 g1 g2 cB cC v)) [2, 3, 4] rfl
  have hKc := hK.sub (tys' := [(cB, .long), (cC, .long)]) [1, 2] rfl
  have hDc := hD.sub (ws' := (Wm g0 g1 g2 cB cC v)) [2, 3, 4] (by decide) rfl
  refine wr_calll (wr := (Wc h0 h1 cA u) ++ [(o0, .inl (cO, 1, .inr (.inl z)))]) (va_runV (As := [.int (xs (i + (1 : Int32)).toNatClampNeg)]) (rest := [.long (f_X3_wanted u (xs (i + (1 : Int32)).toNatClampNeg))]) ⟨hx, hb, hml, hown, hts⟩ (mt_X4_wanted l dC dI g0 g1 g2 cB cC H.size v (xs (i + (1 : Int32)).toNatClampNeg)) (cwV 1 hts gL_68_X4_wanted rfl rfl rfl (by decide +kernel) ⟨Nat.le_of_ble_eq_true rfl, Nat.le_of_ble_eq_true rfl⟩) (wr_V hKc hPc hDc (ci := 1) (q0 := 0) rfl rfl rfl) rfl rfl hl.1 rfl (lv_room (Nat.le_of_ble_eq_true rfl)) dL_law_373 ⟨Nat.le_of_lt hroom.1, Nat.le_trans (Nat.le_add_right _ 6) hroom.2⟩) hS hP hD hA [2, 3, 4] [0, 1, 5] rfl rfl (by decide) (by decide) (fun r_ v_ H locs hw hP hD hS => ?_)
  obtain ⟨rfl, rfl⟩ := hw
  refine W.eq (g2 := F0 m 376 ls [.long (f_X4_wanted v (xs (i + (1 : Int32)).toNatClampNeg)).1, .long (f_X3_wanted u (xs (i + (1 : Int32)).toNatClampNeg))]) rfl ?_
  have hP : va_P (dC, dI) vwCl (Wz h0 h1 cA g0 g1 g2 cB cC o0 cO u (f_X4_wanted v (xs (i + (1 : Int32)).toNatClampNeg)).2 z) H := hP.sub (ws' := (Wz h0 h1 cA g0 g1 g2 cB cC o0 cO u (f_X4_wanted v (xs (i + (1 : Int32)).toNatClampNeg)).2 z)) [0, 1, 3, 4, 5, 2] rfl
  have hD : va_D (fun q : Nat => s.heap.size ≤ q) (Wz h0 h1 cA g0 g1 g2 cB cC o0 cO u (f_X4_wanted v (xs (i + (1 : Int32)).toNatClampNeg)).2 z) := hD.sub (ws' := (Wz h0 h1 cA g0 g1 g2 cB cC o0 cO u (f_X4_wanted v (xs (i + (1 : Int32)).toNatClampNeg)).2 z)) [0, 1, 3, 4, 5, 2] (by decide) rfl
  refine W.lcmp hx hb dL_law_376 ?_
  refine lv_if_eq (tgt := 512) hx hb dL_law_377 (by decide) (fun c1 => ?_) (fun c1 => ?_)
  · have c1 := (lg_cmp_eq (f_X3_wanted u (xs (i + (1 : Int32)).toNatClampNeg)) (f_X4_wanted v (xs (i + (1 : Int32)).toNatClampNeg)).1).mp c1
    refine W.widen (k := cells + 1) (n := slots + 6) (by omega) (by omega) ?_
    exact K9 _ _ _ _ _ _ (tie_wanted u v _ hSim).2 (lv_sub hl [0, 1, 2, 3, 4] rfl) hP hD hS
  · have c1 := mt (lg_cmp_eq (f_X3_wanted u (xs (i + (1 : Int32)).toNatClampNeg)) (f_X4_wanted v (xs (i + (1 : Int32)).toNatClampNeg)).1).mpr c1
    refine lv_iconst (v := (0 : Int32)) hx hb dL_law_380 (by decide) ?_
    exact absurd (tie_wanted u v _ hSim).1 c1

set_option maxHeartbeats 4000000 in
set_option maxRecDepth 100000 in
theorem lw_case6 {p : Program} {l : Launch} {e : Env} {s : State} {m : MethodId} {below : List Frame} {meth : Method} {c : Code} {b L : Nat} {xs : Nat → Int32} {dC : Nat → ClassId} {dI : Nat → Nat → Nat} {h0 h1 g0 g1 g2 o0 : Nat} {cA cB cC cO : ClassId} (C9 : lw_C p l s m c b L xs dC dI cA cB cC cO) {i : Int32} (hi0 : vp_in i L) (hi1 : vp_in (i + (1 : Int32)) L) (hi2 : vp_in (i + (2 : Int32)) L) (hi3 : vp_in (i + (3 : Int32)) L) {u : ScT} {v : SmT} {z : Nat → Int64} {H : Heap} {locs : List Loc} {ls : Array Slot} {cells slots : Nat} (hroom : cells + 1 ≤ room_1.cells ∧ slots + 6 ≤ room_1.slots) (hSim : Sim u v) (hl : lv_has ls 8 [(4, .int i), (3, .ref o0), (2, .ref g0), (1, .ref h0), (0, .ref b)]) (hP : va_P (dC, dI) vwCl (Wz h0 h1 cA g0 g1 g2 cB cC o0 cO u v z) H) (hD : va_D (fun q : Nat => s.heap.size ≤ q) (Wz h0 h1 cA g0 g1 g2 cB cC o0 cO u v z)) (hS : va_S (fun q : Nat => s.heap.size ≤ q) s.heap H locs) (K9 : ∀ (u' : ScT) (v' : SmT) (z' : Nat → Int64) (H' : Heap) (locs' : List Loc) (ls' : Array Slot), Sim u' v' → lv_has ls' 8 [(4, .int i), (3, .ref o0), (2, .ref g0), (1, .ref h0), (0, .ref b)] → va_P (dC, dI) vwCl (Wz h0 h1 cA g0 g1 g2 cB cC o0 cO u' v' z') H' → va_D (fun q : Nat => s.heap.size ≤ q) (Wz h0 h1 cA g0 g1 g2 cB cC o0 cO u' v' z') → va_S (fun q : Nat => s.heap.size ≤ q) s.heap H' locs' → W p l e room_1 s m #[Value.ref b] below meth c H' locs' (cells + 1) (slots + 6) (lw_Z below #[Value.ref b] s) (F0 m 512 ls' [])) : W p l e room_1 s m #[Value.ref b] below meth c H locs cells slots (lw_Z below #[Value.ref b] s) (F0 m 382 ls []) := by
  obtain ⟨hx, hb, hml, hown, hts, hX, hbl, hl9, hT, hK⟩ := id C9
  have hA : ∀ q : Nat, s.heap.size ≤ q → (fun q : Nat => s.heap.size ≤ q) q := fun _ h => h
  have hbA : ¬ (fun q : Nat => s.heap.size ≤ q) b := Nat.not_le.mpr hbl
  refine lv_aload_n hx hb dL_law_382 rfl (lv_at hl 3 rfl) ?_
  refine lv_aload_n hx hb dL_law_383 rfl (lv_at hl 4 rfl) ?_
  refine lv_iload hx hb dL_law_384 (lv_at hl 0 rfl) ?_
  refine lv_iconst (v := (1 : Int32)) hx hb dL_law_386 (by decide) ?_
  refine lv_iadd hx hb dL_law_387 ?_
  refine va_sld hx hb hX hbl hbA hS hi1 dL_law_388 ?_
  refine lv_if_eq (tgt := 396) hx hb dL_law_389 (by decide) (fun c1 => ?_) (fun c1 => ?_)
  · refine lv_iconst (v := (0 : Int32)) hx hb dL_law_396 (by decide) ?_
    refine lv_aload_n hx hb dL_law_397 rfl (lv_at hl 4 rfl) ?_
    refine lv_iload hx hb dL_law_398 (lv_at hl 0 rfl) ?_
    refine lv_iconst (v := (2 : Int32)) hx hb dL_law_400 (by decide) ?_
    refine lv_iadd hx hb dL_law_401 ?_
    refine va_sld hx hb hX hbl hbA hS hi2 dL_law_402 ?_
    refine lv_i2l (v := (xs (i + (2 : Int32)).toNatClampNeg).toInt64) hx hb dL_law_403 rfl ?_
    refine lv_bipush (v := (32 : Int32)) hx hb dL_law_404 (by decide) ?_
    refine lv_lshl (v := (j_lshl (xs (i + (2 : Int32)).toNatClampNeg).toInt64 (32 : Int32))) hx hb dL_law_406 rfl ?_
    refine lv_aload_n hx hb dL_law_407 rfl (lv_at hl 4 rfl) ?_
    refine lv_iload hx hb dL_law_408 (lv_at hl 0 rfl) ?_
    refine lv_iconst (v := (3 : Int32)) hx hb dL_law_410 (by decide) ?_
    refine lv_iadd hx hb dL_law_411 ?_
    refine va_sld hx hb hX hbl hbA hS hi3 dL_law_412 ?_
    refine lv_i2l (v := (xs (i + (3 : Int32)).toNatClampNeg).toInt64) hx hb dL_law_413 rfl ?_
    refine lv_ldc2 (v := (4294967295 : Int64)) hx hb hown (hts _ qw_404) dL_law_414 ?_
    refine lv_land hx hb dL_law_417 ?_
    refine lv_lor hx hb dL_law_418 ?_
    refine lv_aload_n hx hb dL_law_419 rfl (lv_at hl 1 rfl) ?_
    have hF := va_free (wc := (Wl h0 h1 cA o0 cO (u, z))) hD hS hA [0, 1, 5] rfl
    have hPc := hP.sub (ws' := (Wl h0 h1 cA o0 cO (u, z))) [0, 1, 5] rfl
    have hDc := hD.sub (ws' := (Wl h0 h1 cA o0 cO (u, z))) [0, 1, 5] (by decide) rfl
    have hKc := hK.sub (tys' := [(cA, .long), (cO, .long)]) [0, 3] rfl
    refine wr_calli (wr := (Wm g0 g1 g2 cB cC v)) (vx_runSW (As := [.ref h0, .int (0 : Int32), .long ((j_lshl (xs (i + (2 : Int32)).toNatClampNeg).toInt64 (32 : Int32)) ||| ((xs (i + (3 : Int32)).toNatClampNeg).toInt64 &&& (4294967295 : Int64))), .ref o0]) (rest := []) ⟨hx, hb, hml, hown, hts⟩ (mt_L_finish l hl9 dC dI h0 h1 cA o0 cO H.size u z (0 : Int32) ((j_lshl (xs (i + (2 : Int32)).toNatClampNeg).toInt64 (32 : Int32)) ||| ((xs (i + (3 : Int32)).toNatClampNeg).toInt64 &&& (4294967295 : Int64)))) (vx_cwSW 4 hts gL_69_L_finish rfl rfl rfl (by decide +kernel) ⟨Nat.le_of_ble_eq_true rfl, Nat.le_of_ble_eq_true rfl⟩) (tw_S hKc hPc hDc hT hS hF) rfl rfl hl.1 rfl (lv_room (Nat.le_of_ble_eq_true rfl)) dL_law_420 hroom) hS hP hD hA [0, 1, 5] [2, 3, 4] rfl rfl (by decide) (by decide) (fun r_ v_ H locs hw hP hD hS => ?_)
    obtain ⟨rfl, rfl⟩ := hw
    refine W.eq (g2 := F0 m 423 ls [.int (h_finish u z (0 : Int32) ((j_lshl (xs (i + (2 : Int32)).toNatClampNeg).toInt64 (32 : Int32)) ||| ((xs (i + (3 : Int32)).toNatClampNeg).toInt64 &&& (4294967295 : Int64)))).1]) rfl ?_
    have hP : va_P (dC, dI) vwCl (Wz h0 h1 cA g0 g1 g2 cB cC o0 cO (h_finish u z (0 : Int32) ((j_lshl (xs (i + (2 : Int32)).toNatClampNeg).toInt64 (32 : Int32)) ||| ((xs (i + (3 : Int32)).toNatClampNeg).toInt64 &&& (4294967295 : Int64)))).2.1 v (h_finish u z (0 : Int32) ((j_lshl (xs (i + (2 : Int32)).toNatClampNeg).toInt64 (32 : Int32)) ||| ((xs (i + (3 : Int32)).toNatClampNeg).toInt64 &&& (4294967295 : Int64)))).2.2) H := hP.sub (ws' := (Wz h0 h1 cA g0 g1 g2 cB cC o0 cO (h_finish u z (0 : Int32) ((j_lshl (xs (i + (2 : Int32)).toNatClampNeg).toInt64 (32 : Int32)) ||| ((xs (i + (3 : Int32)).toNatClampNeg).toInt64 &&& (4294967295 : Int64)))).2.1 v (h_finish u z (0 : Int32) ((j_lshl (xs (i + (2 : Int32)).toNatClampNeg).toInt64 (32 : Int32)) ||| ((xs (i + (3 : Int32)).toNatClampNeg).toInt64 &&& (4294967295 : Int64)))).2.2)) [3, 4, 0, 1, 2, 5] rfl
    have hD : va_D (fun q : Nat => s.heap.size ≤ q) (Wz h0 h1 cA g0 g1 g2 cB cC o0 cO (h_finish u z (0 : Int32) ((j_lshl (xs (i + (2 : Int32)).toNatClampNeg).toInt64 (32 : Int32)) ||| ((xs (i + (3 : Int32)).toNatClampNeg).toInt64 &&& (4294967295 : Int64)))).2.1 v (h_finish u z (0 : Int32) ((j_lshl (xs (i + (2 : Int32)).toNatClampNeg).toInt64 (32 : Int32)) ||| ((xs (i + (3 : Int32)).toNatClampNeg).toInt64 &&& (4294967295 : Int64)))).2.2) := hD.sub (ws' := (Wz h0 h1 cA g0 g1 g2 cB cC o0 cO (h_finish u z (0 : Int32) ((j_lshl (xs (i + (2 : Int32)).toNatClampNeg).toInt64 (32 : Int32)) ||| ((xs (i + (3 : Int32)).toNatClampNeg).toInt64 &&& (4294967295 : Int64)))).2.1 v (h_finish u z (0 : Int32) ((j_lshl (xs (i + (2 : Int32)).toNatClampNeg).toInt64 (32 : Int32)) ||| ((xs (i + (3 : Int32)).toNatClampNeg).toInt64 &&& (4294967295 : Int64)))).2.2)) [3, 4, 0, 1, 2, 5] (by decide) rfl
    refine lv_istore (lv' := [(5, .int (h_finish u z (0 : Int32) ((j_lshl (xs (i + (2 : Int32)).toNatClampNeg).toInt64 (32 : Int32)) ||| ((xs (i + (3 : Int32)).toNatClampNeg).toInt64 &&& (4294967295 : Int64)))).1), (4, .int i), (3, .ref o0), (2, .ref g0), (1, .ref h0), (0, .ref b)]) hx hb dL_law_423 hl (by decide) rfl (fun ls hl => ?_)
    refine lv_aload_n hx hb dL_law_425 rfl (lv_at hl 3 rfl) ?_
    refine lv_aload_n hx hb dL_law_426 rfl (lv_at hl 5 rfl) ?_
    refine lv_iload hx hb dL_law_427 (lv_at hl 1 rfl) ?_
    refine lv_iconst (v := (1 : Int32)) hx hb dL_law_429 (by decide) ?_
    refine lv_iadd hx hb dL_law_430 ?_
    refine va_sld hx hb hX hbl hbA hS hi1 dL_law_431 ?_
    refine lv_if_eq (tgt := 439) hx hb dL_law_432 (by decide) (fun _ => ?_) (fun c_ => absurd c1 c_)
    refine lv_iconst (v := (0 : Int32)) hx hb dL_law_439 (by decide) ?_
    refine lv_aload_n hx hb dL_law_440 rfl (lv_at hl 5 rfl) ?_
    refine lv_iload hx hb dL_law_441 (lv_at hl 1 rfl) ?_
    refine lv_iconst (v := (2 : Int32)) hx hb dL_law_443 (by decide) ?_
    refine lv_iadd hx hb dL_law_444 ?_
    refine va_sld hx hb hX hbl hbA hS hi2 dL_law_445 ?_
    refine lv_i2l (v := (xs (i + (2 : Int32)).toNatClampNeg).toInt64) hx hb dL_law_446 rfl ?_
    refine lv_bipush (v := (32 : Int32)) hx hb dL_law_447 (by decide) ?_
    refine lv_lshl (v := (j_lshl (xs (i + (2 : Int32)).toNatClampNeg).toInt64 (32 : Int32))) hx hb dL_law_449 rfl ?_
    refine lv_aload_n hx hb dL_law_450 rfl (lv_at hl 5 rfl) ?_
    refine lv_iload hx hb dL_law_451 (lv_at hl 1 rfl) ?_
    refine lv_iconst (v := (3 : Int32)) hx hb dL_law_453 (by decide) ?_
    refine lv_iadd hx hb dL_law_454 ?_
    refine va_sld hx hb hX hbl hbA hS hi3 dL_law_455 ?_
    refine lv_i2l (v := (xs (i + (3 : Int32)).toNatClampNeg).toInt64) hx hb dL_law_456 rfl ?_
    refine lv_ldc2 (v := (4294967295 : Int64)) hx hb hown (hts _ qw_404) dL_law_457 ?_
    refine lv_land hx hb dL_law_460 ?_
    refine lv_lor hx hb dL_law_461 ?_
    have hPc := hP.sub (ws' := (Wm g0 g1 g2 cB cC v)) [2, 3, 4] rfl
    have hKc := hK.sub (tys' := [(cB, .long), (cC, .long)]) [1, 2] rfl
    have hDc := hD.sub (ws' := (Wm g0 g1 g2 cB cC v)) [2, 3, 4] (by decide) rfl
    refine wr_calli (wr := (Wc h0 h1 cA (h_finish u z (0 : Int32) ((j_lshl (xs (i + (2 : Int32)).toNatClampNeg).toInt64 (32 : Int32)) ||| ((xs (i + (3 : Int32)).toNatClampNeg).toInt64 &&& (4294967295 : Int64)))).2.1) ++ [(o0, .inl (cO, 1, .inr (.inl (h_finish u z (0 : Int32) ((j_lshl (xs (i + (2 : Int32)).toNatClampNeg).toInt64 (32 : Int32)) ||| ((xs (i + (3 : Int32)).toNatClampNeg).toInt64 &&& (4294967295 : Int64)))).2.2)))]) (va_runV (As := [.int (0 : Int32), .long ((j_lshl (xs (i + (2 : Int32)).toNatClampNeg).toInt64 (32 : Int32)) ||| ((xs (i + (3 : Int32)).toNatClampNeg).toInt64 &&& (4294967295 : Int64)))]) (rest := []) ⟨hx, hb, hml, hown, hts⟩ (mt_X4_finish l dC dI g0 g1 g2 cB cC H.size v (0 : Int32) ((j_lshl (xs (i + (2 : Int32)).toNatClampNeg).toInt64 (32 : Int32)) ||| ((xs (i + (3 : Int32)).toNatClampNeg).toInt64 &&& (4294967295 : Int64))) (sim_hd hSim)) (cwV 2 hts gL_72_X4_finish rfl rfl rfl (by decide +kernel) ⟨Nat.le_of_ble_eq_true rfl, Nat.le_of_ble_eq_true rfl⟩) (wr_V hKc hPc hDc (ci := 1) (q0 := 0) rfl rfl rfl) rfl rfl hl.1 rfl (lv_room (Nat.le_of_ble_eq_true rfl)) dL_law_462 ⟨hroom.1, Nat.le_trans (Nat.le_add_right _ 0) hroom.2⟩) hS hP hD hA [2, 3, 4] [0, 1, 5] rfl rfl (by decide) (by decide) (fun r_ v_ H locs hw hP hD hS => ?_)
    obtain ⟨rfl, rfl⟩ := hw
    refine W.eq (g2 := F0 m 465 ls [.int (f_X4_finish v (0 : Int32) ((j_lshl (xs (i + (2 : Int32)).toNatClampNeg).toInt64 (32 : Int32)) ||| ((xs (i + (3 : Int32)).toNatClampNeg).toInt64 &&& (4294967295 : Int64)))).1]) rfl ?_
    have hP : va_P (dC, dI) vwCl (Wz h0 h1 cA g0 g1 g2 cB cC o0 cO (h_finish u z (0 : Int32) ((j_lshl (xs (i + (2 : Int32)).toNatClampNeg).toInt64 (32 : Int32)) ||| ((xs (i + (3 : Int32)).toNatClampNeg).toInt64 &&& (4294967295 : Int64)))).2.1 (f_X4_finish v (0 : Int32) ((j_lshl (xs (i + (2 : Int32)).toNatClampNeg).toInt64 (32 : Int32)) ||| ((xs (i + (3 : Int32)).toNatClampNeg).toInt64 &&& (4294967295 : Int64)))).2 (h_finish u z (0 : Int32) ((j_lshl (xs (i + (2 : Int32)).toNatClampNeg).toInt64 (32 : Int32)) ||| ((xs (i + (3 : Int32)).toNatClampNeg).toInt64 &&& (4294967295 : Int64)))).2.2) H := hP.sub (ws' := (Wz h0 h1 cA g0 g1 g2 cB cC o0 cO (h_finish u z (0 : Int32) ((j_lshl (xs (i + (2 : Int32)).toNatClampNeg).toInt64 (32 : Int32)) ||| ((xs (i + (3 : Int32)).toNatClampNeg).toInt64 &&& (4294967295 : Int64)))).2.1 (f_X4_finish v (0 : Int32) ((j_lshl (xs (i + (2 : Int32)).toNatClampNeg).toInt64 (32 : Int32)) ||| ((xs (i + (3 : Int32)).toNatClampNeg).toInt64 &&& (4294967295 : Int64)))).2 (h_finish u z (0 : Int32) ((j_lshl (xs (i + (2 : Int32)).toNatClampNeg).toInt64 (32 : Int32)) ||| ((xs (i + (3 : Int32)).toNatClampNeg).toInt64 &&& (4294967295 : Int64)))).2.2)) [0, 1, 3, 4, 5, 2] rfl
    have hD : va_D (fun q : Nat => s.heap.size ≤ q) (Wz h0 h1 cA g0 g1 g2 cB cC o0 cO (h_finish u z (0 : Int32) ((j_lshl (xs (i + (2 : Int32)).toNatClampNeg).toInt64 (32 : Int32)) ||| ((xs (i + (3 : Int32)).toNatClampNeg).toInt64 &&& (4294967295 : Int64)))).2.1 (f_X4_finish v (0 : Int32) ((j_lshl (xs (i + (2 : Int32)).toNatClampNeg).toInt64 (32 : Int32)) ||| ((xs (i + (3 : Int32)).toNatClampNeg).toInt64 &&& (4294967295 : Int64)))).2 (h_finish u z (0 : Int32) ((j_lshl (xs (i + (2 : Int32)).toNatClampNeg).toInt64 (32 : Int32)) ||| ((xs (i + (3 : Int32)).toNatClampNeg).toInt64 &&& (4294967295 : Int64)))).2.2) := hD.sub (ws' := (Wz h0 h1 cA g0 g1 g2 cB cC o0 cO (h_finish u z (0 : Int32) ((j_lshl (xs (i + (2 : Int32)).toNatClampNeg).toInt64 (32 : Int32)) ||| ((xs (i + (3 : Int32)).toNatClampNeg).toInt64 &&& (4294967295 : Int64)))).2.1 (f_X4_finish v (0 : Int32) ((j_lshl (xs (i + (2 : Int32)).toNatClampNeg).toInt64 (32 : Int32)) ||| ((xs (i + (3 : Int32)).toNatClampNeg).toInt64 &&& (4294967295 : Int64)))).2 (h_finish u z (0 : Int32) ((j_lshl (xs (i + (2 : Int32)).toNatClampNeg).toInt64 (32 : Int32)) ||| ((xs (i + (3 : Int32)).toNatClampNeg).toInt64 &&& (4294967295 : Int64)))).2.2)) [0, 1, 3, 4, 5, 2] (by decide) rfl
    refine lv_istore (lv' := [(6, .int (f_X4_finish v (0 : Int32) ((j_lshl (xs (i + (2 : Int32)).toNatClampNeg).toInt64 (32 : Int32)) ||| ((xs (i + (3 : Int32)).toNatClampNeg).toInt64 &&& (4294967295 : Int64)))).1), (5, .int (h_finish u z (0 : Int32) ((j_lshl (xs (i + (2 : Int32)).toNatClampNeg).toInt64 (32 : Int32)) ||| ((xs (i + (3 : Int32)).toNatClampNeg).toInt64 &&& (4294967295 : Int64)))).1), (4, .int i), (3, .ref o0), (2, .ref g0), (1, .ref h0), (0, .ref b)]) hx hb dL_law_465 hl (by decide) rfl (fun ls hl => ?_)
    refine lv_aload_n hx hb dL_law_467 rfl (lv_at hl 4 rfl) ?_
    have hPc := hP.sub (ws' := (Wm g0 g1 g2 cB cC (f_X4_finish v (0 : Int32) ((j_lshl (xs (i + (2 : Int32)).toNatClampNeg).toInt64 (32 : Int32)) ||| ((xs (i + (3 : Int32)).toNatClampNeg).toInt64 &&& (4294967295 : Int64)))).2)) [2, 3, 4] rfl
    have hKc := hK.sub (tys' := [(cB, .long), (cC, .long)]) [1, 2] rfl
    refine W.callV (W.runV (As := []) (rest := []) ⟨hx, hb, hml, hown, hts⟩ (mt_X4_thrown l dC dI g0 g1 g2 cB cC (f_X4_finish v (0 : Int32) ((j_lshl (xs (i + (2 : Int32)).toNatClampNeg).toInt64 (32 : Int32)) ||| ((xs (i + (3 : Int32)).toNatClampNeg).toInt64 &&& (4294967295 : Int64)))).2 ) (cwV 0 hts gL_41_X4_thrown rfl rfl rfl (by decide +kernel) ⟨Nat.le_of_ble_eq_true rfl, Nat.le_of_ble_eq_true rfl⟩) (rd_V hKc hPc (ci := 1) (q0 := 0) rfl rfl rfl) rfl rfl hl.1 rfl (lv_room (Nat.le_of_ble_eq_true rfl)) dL_law_468 ⟨hroom.1, Nat.le_trans (Nat.le_add_right _ 0) hroom.2⟩) ?_
    refine W.eq (g2 := F0 m 471 ls [.int (f_X4_thrown (f_X4_finish v (0 : Int32) ((j_lshl (xs (i + (2 : Int32)).toNatClampNeg).toInt64 (32 : Int32)) ||| ((xs (i + (3 : Int32)).toNatClampNeg).toInt64 &&& (4294967295 : Int64)))).2)]) rfl ?_
    refine lv_iload hx hb dL_law_471 (lv_at hl 1 rfl) ?_
    refine lv_icmp_eq (tgt := 478) hx hb dL_law_473 (by decide) (fun c2 => ?_) (fun c2 => ?_)
    · refine lv_iload hx hb dL_law_478 (lv_at hl 1 rfl) ?_
      refine lv_if_ne (tgt := 495) hx hb dL_law_480 (by decide) (fun c3 => ?_) (fun c3 => ?_)
      · refine lv_goto (tgt := 512) hx hb dL_law_495 (by decide) ?_
        refine W.widen (k := cells + 1) (n := slots + 6) (by omega) (by omega) ?_
        exact K9 _ _ _ _ _ _ (tie_finish u v z _ _ hSim).2.2 (lv_sub hl [2, 3, 4, 5, 6] rfl) hP hD hS
      · refine lv_aload_n hx hb dL_law_483 rfl (lv_at hl 3 rfl) ?_
        refine lv_iconst (v := (0 : Int32)) hx hb dL_law_484 (by decide) ?_
        refine va_lald hx hb hK hP 5 3 rfl rfl (by unfold vp_in; decide) dL_law_485 ?_
        refine lv_iload hx hb dL_law_486 (lv_at hl 0 rfl) ?_
        refine lv_i2l (v := (f_X4_finish v (0 : Int32) ((j_lshl (xs (i + (2 : Int32)).toNatClampNeg).toInt64 (32 : Int32)) ||| ((xs (i + (3 : Int32)).toNatClampNeg).toInt64 &&& (4294967295 : Int64)))).1.toInt64) hx hb dL_law_488 rfl ?_
        refine W.lcmp hx hb dL_law_489 ?_
        refine lv_if_eq (tgt := 495) hx hb dL_law_490 (by decide) (fun c4 => ?_) (fun c4 => ?_)
        · have c4 := (lg_cmp_eq ((h_finish u z (0 : Int32) ((j_lshl (xs (i + (2 : Int32)).toNatClampNeg).toInt64 (32 : Int32)) ||| ((xs (i + (3 : Int32)).toNatClampNeg).toInt64 &&& (4294967295 : Int64)))).2.2 (0 : Int32).toNatClampNeg) (f_X4_finish v (0 : Int32) ((j_lshl (xs (i + (2 : Int32)).toNatClampNeg).toInt64 (32 : Int32)) ||| ((xs (i + (3 : Int32)).toNatClampNeg).toInt64 &&& (4294967295 : Int64)))).1.toInt64).mp c4
          refine lv_goto (tgt := 512) hx hb dL_law_495 (by decide) ?_
          refine W.widen (k := cells + 1) (n := slots + 6) (by omega) (by omega) ?_
          exact K9 _ _ _ _ _ _ (tie_finish u v z _ _ hSim).2.2 (lv_sub hl [2, 3, 4, 5, 6] rfl) hP hD hS
        · have c4 := mt (lg_cmp_eq ((h_finish u z (0 : Int32) ((j_lshl (xs (i + (2 : Int32)).toNatClampNeg).toInt64 (32 : Int32)) ||| ((xs (i + (3 : Int32)).toNatClampNeg).toInt64 &&& (4294967295 : Int64)))).2.2 (0 : Int32).toNatClampNeg) (f_X4_finish v (0 : Int32) ((j_lshl (xs (i + (2 : Int32)).toNatClampNeg).toInt64 (32 : Int32)) ||| ((xs (i + (3 : Int32)).toNatClampNeg).toInt64 &&& (4294967295 : Int64)))).1.toInt64).mpr c4
          refine lv_iconst (v := (0 : Int32)) hx hb dL_law_493 (by decide) ?_
          exact absurd ((tie_finish u v z _ _ hSim).2.1 c3) c4
    · refine lv_iconst (v := (0 : Int32)) hx hb dL_law_476 (by decide) ?_
      exact absurd (tie_finish u v z _ _ hSim).1 c2
  · refine lv_iconst (v := (1 : Int32)) hx hb dL_law_392 (by decide) ?_
    refine lv_goto (tgt := 397) hx hb dL_law_393 (by decide) ?_
    refine lv_aload_n hx hb dL_law_397 rfl (lv_at hl 4 rfl) ?_
    refine lv_iload hx hb dL_law_398 (lv_at hl 0 rfl) ?_
    refine lv_iconst (v := (2 : Int32)) hx hb dL_law_400 (by decide) ?_
    refine lv_iadd hx hb dL_law_401 ?_
    refine va_sld hx hb hX hbl hbA hS hi2 dL_law_402 ?_
    refine lv_i2l (v := (xs (i + (2 : Int32)).toNatClampNeg).toInt64) hx hb dL_law_403 rfl ?_
    refine lv_bipush (v := (32 : Int32)) hx hb dL_law_404 (by decide) ?_
    refine lv_lshl (v := (j_lshl (xs (i + (2 : Int32)).toNatClampNeg).toInt64 (32 : Int32))) hx hb dL_law_406 rfl ?_
    refine lv_aload_n hx hb dL_law_407 rfl (lv_at hl 4 rfl) ?_
    refine lv_iload hx hb dL_law_408 (lv_at hl 0 rfl) ?_
    refine lv_iconst (v := (3 : Int32)) hx hb dL_law_410 (by decide) ?_
    refine lv_iadd hx hb dL_law_411 ?_
    refine va_sld hx hb hX hbl hbA hS hi3 dL_law_412 ?_
    refine lv_i2l (v := (xs (i + (3 : Int32)).toNatClampNeg).toInt64) hx hb dL_law_413 rfl ?_
    refine lv_ldc2 (v := (4294967295 : Int64)) hx hb hown (hts _ qw_404) dL_law_414 ?_
    refine lv_land hx hb dL_law_417 ?_
    refine lv_lor hx hb dL_law_418 ?_
    refine lv_aload_n hx hb dL_law_419 rfl (lv_at hl 1 rfl) ?_
    have hF := va_free (wc := (Wl h0 h1 cA o0 cO (u, z))) hD hS hA [0, 1, 5] rfl
    have hPc := hP.sub (ws' := (Wl h0 h1 cA o0 cO (u, z))) [0, 1, 5] rfl
    have hDc := hD.sub (ws' := (Wl h0 h1 cA o0 cO (u, z))) [0, 1, 5] (by decide) rfl
    have hKc := hK.sub (tys' := [(cA, .long), (cO, .long)]) [0, 3] rfl
    refine wr_calli (wr := (Wm g0 g1 g2 cB cC v)) (vx_runSW (As := [.ref h0, .int (1 : Int32), .long ((j_lshl (xs (i + (2 : Int32)).toNatClampNeg).toInt64 (32 : Int32)) ||| ((xs (i + (3 : Int32)).toNatClampNeg).toInt64 &&& (4294967295 : Int64))), .ref o0]) (rest := []) ⟨hx, hb, hml, hown, hts⟩ (mt_L_finish l hl9 dC dI h0 h1 cA o0 cO H.size u z (1 : Int32) ((j_lshl (xs (i + (2 : Int32)).toNatClampNeg).toInt64 (32 : Int32)) ||| ((xs (i + (3 : Int32)).toNatClampNeg).toInt64 &&& (4294967295 : Int64)))) (vx_cwSW 4 hts gL_69_L_finish rfl rfl rfl (by decide +kernel) ⟨Nat.le_of_ble_eq_true rfl, Nat.le_of_ble_eq_true rfl⟩) (tw_S hKc hPc hDc hT hS hF) rfl rfl hl.1 rfl (lv_room (Nat.le_of_ble_eq_true rfl)) dL_law_420 hroom) hS hP hD hA [0, 1, 5] [2, 3, 4] rfl rfl (by decide) (by decide) (fun r_ v_ H locs hw hP hD hS => ?_)
    obtain ⟨rfl, rfl⟩ := hw
    refine W.eq (g2 := F0 m 423 ls [.int (h_finish u z (1 : Int32) ((j_lshl (xs (i + (2 : Int32)).toNatClampNeg).toInt64 (32 : Int32)) ||| ((xs (i + (3 : Int32)).toNatClampNeg).toInt64 &&& (4294967295 : Int64)))).1]) rfl ?_
    have hP : va_P (dC, dI) vwCl (Wz h0 h1 cA g0 g1 g2 cB cC o0 cO (h_finish u z (1 : Int32) ((j_lshl (xs (i + (2 : Int32)).toNatClampNeg).toInt64 (32 : Int32)) ||| ((xs (i + (3 : Int32)).toNatClampNeg).toInt64 &&& (4294967295 : Int64)))).2.1 v (h_finish u z (1 : Int32) ((j_lshl (xs (i + (2 : Int32)).toNatClampNeg).toInt64 (32 : Int32)) ||| ((xs (i + (3 : Int32)).toNatClampNeg).toInt64 &&& (4294967295 : Int64)))).2.2) H := hP.sub (ws' := (Wz h0 h1 cA g0 g1 g2 cB cC o0 cO (h_finish u z (1 : Int32) ((j_lshl (xs (i + (2 : Int32)).toNatClampNeg).toInt64 (32 : Int32)) ||| ((xs (i + (3 : Int32)).toNatClampNeg).toInt64 &&& (4294967295 : Int64)))).2.1 v (h_finish u z (1 : Int32) ((j_lshl (xs (i + (2 : Int32)).toNatClampNeg).toInt64 (32 : Int32)) ||| ((xs (i + (3 : Int32)).toNatClampNeg).toInt64 &&& (4294967295 : Int64)))).2.2)) [3, 4, 0, 1, 2, 5] rfl
    have hD : va_D (fun q : Nat => s.heap.size ≤ q) (Wz h0 h1 cA g0 g1 g2 cB cC o0 cO (h_finish u z (1 : Int32) ((j_lshl (xs (i + (2 : Int32)).toNatClampNeg).toInt64 (32 : Int32)) ||| ((xs (i + (3 : Int32)).toNatClampNeg).toInt64 &&& (4294967295 : Int64)))).2.1 v (h_finish u z (1 : Int32) ((j_lshl (xs (i + (2 : Int32)).toNatClampNeg).toInt64 (32 : Int32)) ||| ((xs (i + (3 : Int32)).toNatClampNeg).toInt64 &&& (4294967295 : Int64)))).2.2) := hD.sub (ws' := (Wz h0 h1 cA g0 g1 g2 cB cC o0 cO (h_finish u z (1 : Int32) ((j_lshl (xs (i + (2 : Int32)).toNatClampNeg).toInt64 (32 : Int32)) ||| ((xs (i + (3 : Int32)).toNatClampNeg).toInt64 &&& (4294967295 : Int64)))).2.1 v (h_finish u z (1 : Int32) ((j_lshl (xs (i + (2 : Int32)).toNatClampNeg).toInt64 (32 : Int32)) ||| ((xs (i + (3 : Int32)).toNatClampNeg).toInt64 &&& (4294967295 : Int64)))).2.2)) [3, 4, 0, 1, 2, 5] (by decide) rfl
    refine lv_istore (lv' := [(5, .int (h_finish u z (1 : Int32) ((j_lshl (xs (i + (2 : Int32)).toNatClampNeg).toInt64 (32 : Int32)) ||| ((xs (i + (3 : Int32)).toNatClampNeg).toInt64 &&& (4294967295 : Int64)))).1), (4, .int i), (3, .ref o0), (2, .ref g0), (1, .ref h0), (0, .ref b)]) hx hb dL_law_423 hl (by decide) rfl (fun ls hl => ?_)
    refine lv_aload_n hx hb dL_law_425 rfl (lv_at hl 3 rfl) ?_
    refine lv_aload_n hx hb dL_law_426 rfl (lv_at hl 5 rfl) ?_
    refine lv_iload hx hb dL_law_427 (lv_at hl 1 rfl) ?_
    refine lv_iconst (v := (1 : Int32)) hx hb dL_law_429 (by decide) ?_
    refine lv_iadd hx hb dL_law_430 ?_
    refine va_sld hx hb hX hbl hbA hS hi1 dL_law_431 ?_
    refine lv_if_eq (tgt := 439) hx hb dL_law_432 (by decide) (fun c_ => absurd c_ c1) (fun _ => ?_)
    refine lv_iconst (v := (1 : Int32)) hx hb dL_law_435 (by decide) ?_
    refine lv_goto (tgt := 440) hx hb dL_law_436 (by decide) ?_
    refine lv_aload_n hx hb dL_law_440 rfl (lv_at hl 5 rfl) ?_
    refine lv_iload hx hb dL_law_441 (lv_at hl 1 rfl) ?_
    refine lv_iconst (v := (2 : Int32)) hx hb dL_law_443 (by decide) ?_
    refine lv_iadd hx hb dL_law_444 ?_
    refine va_sld hx hb hX hbl hbA hS hi2 dL_law_445 ?_
    refine lv_i2l (v := (xs (i + (2 : Int32)).toNatClampNeg).toInt64) hx hb dL_law_446 rfl ?_
    refine lv_bipush (v := (32 : Int32)) hx hb dL_law_447 (by decide) ?_
    refine lv_lshl (v := (j_lshl (xs (i + (2 : Int32)).toNatClampNeg).toInt64 (32 : Int32))) hx hb dL_law_449 rfl ?_
    refine lv_aload_n hx hb dL_law_450 rfl (lv_at hl 5 rfl) ?_
    refine lv_iload hx hb dL_law_451 (lv_at hl 1 rfl) ?_
    refine lv_iconst (v := (3 : Int32)) hx hb dL_law_453 (by decide) ?_
    refine lv_iadd hx hb dL_law_454 ?_
    refine va_sld hx hb hX hbl hbA hS hi3 dL_law_455 ?_
    refine lv_i2l (v := (xs (i + (3 : Int32)).toNatClampNeg).toInt64) hx hb dL_law_456 rfl ?_
    refine lv_ldc2 (v := (4294967295 : Int64)) hx hb hown (hts _ qw_404) dL_law_457 ?_
    refine lv_land hx hb dL_law_460 ?_
    refine lv_lor hx hb dL_law_461 ?_
    have hPc := hP.sub (ws' := (Wm g0 g1 g2 cB cC v)) [2, 3, 4] rfl
    have hKc := hK.sub (tys' := [(cB, .long), (cC, .long)]) [1, 2] rfl
    have hDc := hD.sub (ws' := (Wm g0 g1 g2 cB cC v)) [2, 3, 4] (by decide) rfl
    refine wr_calli (wr := (Wc h0 h1 cA (h_finish u z (1 : Int32) ((j_lshl (xs (i + (2 : Int32)).toNatClampNeg).toInt64 (32 : Int32)) ||| ((xs (i + (3 : Int32)).toNatClampNeg).toInt64 &&& (4294967295 : Int64)))).2.1) ++ [(o0, .inl (cO, 1, .inr (.inl (h_finish u z (1 : Int32) ((j_lshl (xs (i + (2 : Int32)).toNatClampNeg).toInt64 (32 : Int32)) ||| ((xs (i + (3 : Int32)).toNatClampNeg).toInt64 &&& (4294967295 : Int64)))).2.2)))]) (va_runV (As := [.int (1 : Int32), .long ((j_lshl (xs (i + (2 : Int32)).toNatClampNeg).toInt64 (32 : Int32)) ||| ((xs (i + (3 : Int32)).toNatClampNeg).toInt64 &&& (4294967295 : Int64)))]) (rest := []) ⟨hx, hb, hml, hown, hts⟩ (mt_X4_finish l dC dI g0 g1 g2 cB cC H.size v (1 : Int32) ((j_lshl (xs (i + (2 : Int32)).toNatClampNeg).toInt64 (32 : Int32)) ||| ((xs (i + (3 : Int32)).toNatClampNeg).toInt64 &&& (4294967295 : Int64))) (sim_hd hSim)) (cwV 2 hts gL_72_X4_finish rfl rfl rfl (by decide +kernel) ⟨Nat.le_of_ble_eq_true rfl, Nat.le_of_ble_eq_true rfl⟩) (wr_V hKc hPc hDc (ci := 1) (q0 := 0) rfl rfl rfl) rfl rfl hl.1 rfl (lv_room (Nat.le_of_ble_eq_true rfl)) dL_law_462 ⟨hroom.1, Nat.le_trans (Nat.le_add_right _ 0) hroom.2⟩) hS hP hD hA [2, 3, 4] [0, 1, 5] rfl rfl (by decide) (by decide) (fun r_ v_ H locs hw hP hD hS => ?_)
    obtain ⟨rfl, rfl⟩ := hw
    refine W.eq (g2 := F0 m 465 ls [.int (f_X4_finish v (1 : Int32) ((j_lshl (xs (i + (2 : Int32)).toNatClampNeg).toInt64 (32 : Int32)) ||| ((xs (i + (3 : Int32)).toNatClampNeg).toInt64 &&& (4294967295 : Int64)))).1]) rfl ?_
    have hP : va_P (dC, dI) vwCl (Wz h0 h1 cA g0 g1 g2 cB cC o0 cO (h_finish u z (1 : Int32) ((j_lshl (xs (i + (2 : Int32)).toNatClampNeg).toInt64 (32 : Int32)) ||| ((xs (i + (3 : Int32)).toNatClampNeg).toInt64 &&& (4294967295 : Int64)))).2.1 (f_X4_finish v (1 : Int32) ((j_lshl (xs (i + (2 : Int32)).toNatClampNeg).toInt64 (32 : Int32)) ||| ((xs (i + (3 : Int32)).toNatClampNeg).toInt64 &&& (4294967295 : Int64)))).2 (h_finish u z (1 : Int32) ((j_lshl (xs (i + (2 : Int32)).toNatClampNeg).toInt64 (32 : Int32)) ||| ((xs (i + (3 : Int32)).toNatClampNeg).toInt64 &&& (4294967295 : Int64)))).2.2) H := hP.sub (ws' := (Wz h0 h1 cA g0 g1 g2 cB cC o0 cO (h_finish u z (1 : Int32) ((j_lshl (xs (i + (2 : Int32)).toNatClampNeg).toInt64 (32 : Int32)) ||| ((xs (i + (3 : Int32)).toNatClampNeg).toInt64 &&& (4294967295 : Int64)))).2.1 (f_X4_finish v (1 : Int32) ((j_lshl (xs (i + (2 : Int32)).toNatClampNeg).toInt64 (32 : Int32)) ||| ((xs (i + (3 : Int32)).toNatClampNeg).toInt64 &&& (4294967295 : Int64)))).2 (h_finish u z (1 : Int32) ((j_lshl (xs (i + (2 : Int32)).toNatClampNeg).toInt64 (32 : Int32)) ||| ((xs (i + (3 : Int32)).toNatClampNeg).toInt64 &&& (4294967295 : Int64)))).2.2)) [0, 1, 3, 4, 5, 2] rfl
    have hD : va_D (fun q : Nat => s.heap.size ≤ q) (Wz h0 h1 cA g0 g1 g2 cB cC o0 cO (h_finish u z (1 : Int32) ((j_lshl (xs (i + (2 : Int32)).toNatClampNeg).toInt64 (32 : Int32)) ||| ((xs (i + (3 : Int32)).toNatClampNeg).toInt64 &&& (4294967295 : Int64)))).2.1 (f_X4_finish v (1 : Int32) ((j_lshl (xs (i + (2 : Int32)).toNatClampNeg).toInt64 (32 : Int32)) ||| ((xs (i + (3 : Int32)).toNatClampNeg).toInt64 &&& (4294967295 : Int64)))).2 (h_finish u z (1 : Int32) ((j_lshl (xs (i + (2 : Int32)).toNatClampNeg).toInt64 (32 : Int32)) ||| ((xs (i + (3 : Int32)).toNatClampNeg).toInt64 &&& (4294967295 : Int64)))).2.2) := hD.sub (ws' := (Wz h0 h1 cA g0 g1 g2 cB cC o0 cO (h_finish u z (1 : Int32) ((j_lshl (xs (i + (2 : Int32)).toNatClampNeg).toInt64 (32 : Int32)) ||| ((xs (i + (3 : Int32)).toNatClampNeg).toInt64 &&& (4294967295 : Int64)))).2.1 (f_X4_finish v (1 : Int32) ((j_lshl (xs (i + (2 : Int32)).toNatClampNeg).toInt64 (32 : Int32)) ||| ((xs (i + (3 : Int32)).toNatClampNeg).toInt64 &&& (4294967295 : Int64)))).2 (h_finish u z (1 : Int32) ((j_lshl (xs (i + (2 : Int32)).toNatClampNeg).toInt64 (32 : Int32)) ||| ((xs (i + (3 : Int32)).toNatClampNeg).toInt64 &&& (4294967295 : Int64)))).2.2)) [0, 1, 3, 4, 5, 2] (by decide) rfl
    refine lv_istore (lv' := [(6, .int (f_X4_finish v (1 : Int32) ((j_lshl (xs (i + (2 : Int32)).toNatClampNeg).toInt64 (32 : Int32)) ||| ((xs (i + (3 : Int32)).toNatClampNeg).toInt64 &&& (4294967295 : Int64)))).1), (5, .int (h_finish u z (1 : Int32) ((j_lshl (xs (i + (2 : Int32)).toNatClampNeg).toInt64 (32 : Int32)) ||| ((xs (i + (3 : Int32)).toNatClampNeg).toInt64 &&& (4294967295 : Int64)))).1), (4, .int i), (3, .ref o0), (2, .ref g0), (1, .ref h0), (0, .ref b)]) hx hb dL_law_465 hl (by decide) rfl (fun ls hl => ?_)
    refine lv_aload_n hx hb dL_law_467 rfl (lv_at hl 4 rfl) ?_
    have hPc := hP.sub (ws' := (Wm g0 g1 g2 cB cC (f_X4_finish v (1 : Int32) ((j_lshl (xs (i + (2 : Int32)).toNatClampNeg).toInt64 (32 : Int32)) ||| ((xs (i + (3 : Int32)).toNatClampNeg).toInt64 &&& (4294967295 : Int64)))).2)) [2, 3, 4] rfl
    have hKc := hK.sub (tys' := [(cB, .long), (cC, .long)]) [1, 2] rfl
    refine W.callV (W.runV (As := []) (rest := []) ⟨hx, hb, hml, hown, hts⟩ (mt_X4_thrown l dC dI g0 g1 g2 cB cC (f_X4_finish v (1 : Int32) ((j_lshl (xs (i + (2 : Int32)).toNatClampNeg).toInt64 (32 : Int32)) ||| ((xs (i + (3 : Int32)).toNatClampNeg).toInt64 &&& (4294967295 : Int64)))).2 ) (cwV 0 hts gL_41_X4_thrown rfl rfl rfl (by decide +kernel) ⟨Nat.le_of_ble_eq_true rfl, Nat.le_of_ble_eq_true rfl⟩) (rd_V hKc hPc (ci := 1) (q0 := 0) rfl rfl rfl) rfl rfl hl.1 rfl (lv_room (Nat.le_of_ble_eq_true rfl)) dL_law_468 ⟨hroom.1, Nat.le_trans (Nat.le_add_right _ 0) hroom.2⟩) ?_
    refine W.eq (g2 := F0 m 471 ls [.int (f_X4_thrown (f_X4_finish v (1 : Int32) ((j_lshl (xs (i + (2 : Int32)).toNatClampNeg).toInt64 (32 : Int32)) ||| ((xs (i + (3 : Int32)).toNatClampNeg).toInt64 &&& (4294967295 : Int64)))).2)]) rfl ?_
    refine lv_iload hx hb dL_law_471 (lv_at hl 1 rfl) ?_
    refine lv_icmp_eq (tgt := 478) hx hb dL_law_473 (by decide) (fun c5 => ?_) (fun c5 => ?_)
    · refine lv_iload hx hb dL_law_478 (lv_at hl 1 rfl) ?_
      refine lv_if_ne (tgt := 495) hx hb dL_law_480 (by decide) (fun c6 => ?_) (fun c6 => ?_)
      · refine lv_goto (tgt := 512) hx hb dL_law_495 (by decide) ?_
        refine W.widen (k := cells + 1) (n := slots + 6) (by omega) (by omega) ?_
        exact K9 _ _ _ _ _ _ (tie_finish u v z _ _ hSim).2.2 (lv_sub hl [2, 3, 4, 5, 6] rfl) hP hD hS
      · refine lv_aload_n hx hb dL_law_483 rfl (lv_at hl 3 rfl) ?_
        refine lv_iconst (v := (0 : Int32)) hx hb dL_law_484 (by decide) ?_
        refine va_lald hx hb hK hP 5 3 rfl rfl (by unfold vp_in; decide) dL_law_485 ?_
        refine lv_iload hx hb dL_law_486 (lv_at hl 0 rfl) ?_
        refine lv_i2l (v := (f_X4_finish v (1 : Int32) ((j_lshl (xs (i + (2 : Int32)).toNatClampNeg).toInt64 (32 : Int32)) ||| ((xs (i + (3 : Int32)).toNatClampNeg).toInt64 &&& (4294967295 : Int64)))).1.toInt64) hx hb dL_law_488 rfl ?_
        refine W.lcmp hx hb dL_law_489 ?_
        refine lv_if_eq (tgt := 495) hx hb dL_law_490 (by decide) (fun c7 => ?_) (fun c7 => ?_)
        · have c7 := (lg_cmp_eq ((h_finish u z (1 : Int32) ((j_lshl (xs (i + (2 : Int32)).toNatClampNeg).toInt64 (32 : Int32)) ||| ((xs (i + (3 : Int32)).toNatClampNeg).toInt64 &&& (4294967295 : Int64)))).2.2 (0 : Int32).toNatClampNeg) (f_X4_finish v (1 : Int32) ((j_lshl (xs (i + (2 : Int32)).toNatClampNeg).toInt64 (32 : Int32)) ||| ((xs (i + (3 : Int32)).toNatClampNeg).toInt64 &&& (4294967295 : Int64)))).1.toInt64).mp c7
          refine lv_goto (tgt := 512) hx hb dL_law_495 (by decide) ?_
          refine W.widen (k := cells + 1) (n := slots + 6) (by omega) (by omega) ?_
          exact K9 _ _ _ _ _ _ (tie_finish u v z _ _ hSim).2.2 (lv_sub hl [2, 3, 4, 5, 6] rfl) hP hD hS
        · have c7 := mt (lg_cmp_eq ((h_finish u z (1 : Int32) ((j_lshl (xs (i + (2 : Int32)).toNatClampNeg).toInt64 (32 : Int32)) ||| ((xs (i + (3 : Int32)).toNatClampNeg).toInt64 &&& (4294967295 : Int64)))).2.2 (0 : Int32).toNatClampNeg) (f_X4_finish v (1 : Int32) ((j_lshl (xs (i + (2 : Int32)).toNatClampNeg).toInt64 (32 : Int32)) ||| ((xs (i + (3 : Int32)).toNatClampNeg).toInt64 &&& (4294967295 : Int64)))).1.toInt64).mpr c7
          refine lv_iconst (v := (0 : Int32)) hx hb dL_law_493 (by decide) ?_
          exact absurd ((tie_finish u v z _ _ hSim).2.1 c6) c7
    · refine lv_iconst (v := (0 : Int32)) hx hb dL_law_476 (by decide) ?_
      exact absurd (tie_finish u v z _ _ hSim).1 c5

set_option maxHeartbeats 4000000 in
set_option maxRecDepth 100000 in
theorem lw_case7 {p : Program} {l : Launch} {e : Env} {s : State} {m : MethodId} {below : List Frame} {meth : Method} {c : Code} {b L : Nat} {xs : Nat → Int32} {dC : Nat → ClassId} {dI : Nat → Nat → Nat} {h0 h1 g0 g1 g2 o0 : Nat} {cA cB cC cO : ClassId} (C9 : lw_C p l s m c b L xs dC dI cA cB cC cO) {i : Int32} (hi0 : vp_in i L) (hi1 : vp_in (i + (1 : Int32)) L) (hi2 : vp_in (i + (2 : Int32)) L) (hi3 : vp_in (i + (3 : Int32)) L) {u : ScT} {v : SmT} {z : Nat → Int64} {H : Heap} {locs : List Loc} {ls : Array Slot} {cells slots : Nat} (hroom : cells + 1 ≤ room_1.cells ∧ slots + 6 ≤ room_1.slots) (hSim : Sim u v) (hl : lv_has ls 8 [(4, .int i), (3, .ref o0), (2, .ref g0), (1, .ref h0), (0, .ref b)]) (hP : va_P (dC, dI) vwCl (Wz h0 h1 cA g0 g1 g2 cB cC o0 cO u v z) H) (hD : va_D (fun q : Nat => s.heap.size ≤ q) (Wz h0 h1 cA g0 g1 g2 cB cC o0 cO u v z)) (hS : va_S (fun q : Nat => s.heap.size ≤ q) s.heap H locs) (K9 : ∀ (u' : ScT) (v' : SmT) (z' : Nat → Int64) (H' : Heap) (locs' : List Loc) (ls' : Array Slot), Sim u' v' → lv_has ls' 8 [(4, .int i), (3, .ref o0), (2, .ref g0), (1, .ref h0), (0, .ref b)] → va_P (dC, dI) vwCl (Wz h0 h1 cA g0 g1 g2 cB cC o0 cO u' v' z') H' → va_D (fun q : Nat => s.heap.size ≤ q) (Wz h0 h1 cA g0 g1 g2 cB cC o0 cO u' v' z') → va_S (fun q : Nat => s.heap.size ≤ q) s.heap H' locs' → W p l e room_1 s m #[Value.ref b] below meth c H' locs' (cells + 1) (slots + 6) (lw_Z below #[Value.ref b] s) (F0 m 512 ls' [])) : W p l e room_1 s m #[Value.ref b] below meth c H locs cells slots (lw_Z below #[Value.ref b] s) (F0 m 498 ls []) := by
  obtain ⟨hx, hb, hml, hown, hts, hX, hbl, hl9, hT, hK⟩ := id C9
  have hA : ∀ q : Nat, s.heap.size ≤ q → (fun q : Nat => s.heap.size ≤ q) q := fun _ h => h
  have hbA : ¬ (fun q : Nat => s.heap.size ≤ q) b := Nat.not_le.mpr hbl
  refine lv_aload_n hx hb dL_law_498 rfl (lv_at hl 3 rfl) ?_
  have hPc := hP.sub (ws' := (Wc h0 h1 cA u)) [0, 1] rfl
  have hKc := hK.sub (tys' := [(cA, .long)]) [0] rfl
  refine W.callV (W.runV (As := []) (rest := []) ⟨hx, hb, hml, hown, hts⟩ (mt_X3_done l dC dI h0 h1 cA u ) (cwV 0 hts gL_73_X3_done rfl rfl rfl (by decide +kernel) ⟨Nat.le_of_ble_eq_true rfl, Nat.le_of_ble_eq_true rfl⟩) (rd_V hKc hPc (ci := 0) (q0 := 0) rfl rfl rfl) rfl rfl hl.1 rfl (lv_room (Nat.le_of_ble_eq_true rfl)) dL_law_499 ⟨Nat.le_of_lt hroom.1, Nat.le_trans (Nat.le_add_right _ 6) hroom.2⟩) ?_
  refine W.eq (g2 := F0 m 502 ls [.long (f_X3_done u)]) rfl ?_
  refine lv_aload_n hx hb dL_law_502 rfl (lv_at hl 2 rfl) ?_
  have hPc := hP.sub (ws' := (Wm g0 g1 g2 cB cC v)) [2, 3, 4] rfl
  have hKc := hK.sub (tys' := [(cB, .long), (cC, .long)]) [1, 2] rfl
  have hDc := hD.sub (ws' := (Wm g0 g1 g2 cB cC v)) [2, 3, 4] (by decide) rfl
  refine wr_calll (wr := (Wc h0 h1 cA u) ++ [(o0, .inl (cO, 1, .inr (.inl z)))]) (va_runV (As := []) (rest := [.long (f_X3_done u)]) ⟨hx, hb, hml, hown, hts⟩ (mt_X4_done l dC dI g0 g1 g2 cB cC H.size v ) (cwV 0 hts gL_76_X4_done rfl rfl rfl (by decide +kernel) ⟨Nat.le_of_ble_eq_true rfl, Nat.le_of_ble_eq_true rfl⟩) (wr_V hKc hPc hDc (ci := 1) (q0 := 0) rfl rfl rfl) rfl rfl hl.1 rfl (lv_room (Nat.le_of_ble_eq_true rfl)) dL_law_503 ⟨Nat.le_of_lt hroom.1, Nat.le_trans (Nat.le_add_right _ 6) hroom.2⟩) hS hP hD hA [2, 3, 4] [0, 1, 5] rfl rfl (by decide) (by decide) (fun r_ v_ H locs hw hP hD hS => ?_)
  obtain ⟨rfl, rfl⟩ := hw
  refine W.eq (g2 := F0 m 506 ls [.long (f_X4_done v).1, .long (f_X3_done u)]) rfl ?_
  have hP : va_P (dC, dI) vwCl (Wz h0 h1 cA g0 g1 g2 cB cC o0 cO u (f_X4_done v).2 z) H := hP.sub (ws' := (Wz h0 h1 cA g0 g1 g2 cB cC o0 cO u (f_X4_done v).2 z)) [0, 1, 3, 4, 5, 2] rfl
  have hD : va_D (fun q : Nat => s.heap.size ≤ q) (Wz h0 h1 cA g0 g1 g2 cB cC o0 cO u (f_X4_done v).2 z) := hD.sub (ws' := (Wz h0 h1 cA g0 g1 g2 cB cC o0 cO u (f_X4_done v).2 z)) [0, 1, 3, 4, 5, 2] (by decide) rfl
  refine W.lcmp hx hb dL_law_506 ?_
  refine lv_if_eq (tgt := 512) hx hb dL_law_507 (by decide) (fun c1 => ?_) (fun c1 => ?_)
  · have c1 := (lg_cmp_eq (f_X3_done u) (f_X4_done v).1).mp c1
    refine W.widen (k := cells + 1) (n := slots + 6) (by omega) (by omega) ?_
    exact K9 _ _ _ _ _ _ (tie_done u v hSim).2 (lv_sub hl [0, 1, 2, 3, 4] rfl) hP hD hS
  · have c1 := mt (lg_cmp_eq (f_X3_done u) (f_X4_done v).1).mpr c1
    refine lv_iconst (v := (0 : Int32)) hx hb dL_law_510 (by decide) ?_
    exact absurd (tie_done u v hSim).1 c1
