noncomputable def f_X4_thrown (u : SmT) : Int32 :=
  u.1
set_option maxHeartbeats 4000000 in
set_option maxRecDepth 100000 in
theorem mt_X4_thrown (l : Launch) (dC : Nat → ClassId) (dI : Nat → Nat → Nat) (g0 g1 g2 : Nat) (cB cC : ClassId) (u : SmT)  : Met l yX4_thrown wsX4_thrown ({ frames := 0, cells := 0, slots := 0, locals := 0 }) (rd_P [.ref g0] (dC, dI) vwCl (Wm g0 g1 g2 cB cC u) [(cB, .long), (cC, .long)]) (k2_QcV (.int (f_X4_thrown u))) 0 0 (fun _ => False) := by
  refine Met.ofW (cc := cX4_thrown) (maxL := 1) (ret := (some .int)) (by decide) rfl ?_
  intro p e s m args below meth c s₁ B hml hv
  obtain ⟨rfl, hP, hK⟩ := hv
  have hx := B.exec
  have hb := B.bytes
  have hr := B.returns
  have hts0 := atoms_spec (ws := wsX4_thrown) B.pre
  have hts := fun (w : Cond) (h : w ∈ lw_G) => hts0 w (List.mem_cons_of_mem _ h)
  have hown : s.vm.findClass RX4 = some m.cls := findClass_of_methodNamed B.named
  have hlocks := B.notSynchronized
  have hl := lv_entry ([.ref g0]) (n := 1) (Nat.le_of_ble_eq_true rfl)
  rw [lg_entry_eq]
  generalize (lg_sl ([.ref g0]) ++ List.replicate (1 - (lg_sl ([.ref g0])).length) Slot.unset).toArray = ls at hl ⊢
  have hl : lv_has ls 1 [(0, .ref g0)] := hl
  refine lv_aload_n hx hb dX4_thrown_0 rfl (lv_at hl 0 rfl) ?_
  refine va_get (D := (dC, dI)) (ci := 1) (v := .int u.1) (C := RX4) (T := TX4) (N := 13) hx hb hts inX4 hown hK hP 0 rfl rfl 0 (by decide) (hts _ qw_258) (fun _ h9 => h9) rfl dX4_thrown_1 ?_
  have hF : f_X4_thrown u = u.1 := rfl
  exact W.iret (v := u.1) hx hb hr (fun t ht hW => ⟨by rw [hF], ht⟩) (fun _ h => by cases h) dX4_thrown_4

noncomputable def f_X4_sign (u : SmT) (p0 : Int64) : Int64 :=
  if 0 ≤ u.2.2.2.2.1 then
    (0 : Int64)
  else
    (-p0)
set_option maxHeartbeats 4000000 in
set_option maxRecDepth 100000 in
theorem mt_X4_sign (l : Launch) (dC : Nat → ClassId) (dI : Nat → Nat → Nat) (g0 g1 g2 : Nat) (cB cC : ClassId) (u : SmT) (p0 : Int64) : Met l yX4_sign wsX4_sign ({ frames := 0, cells := 0, slots := 0, locals := 0 }) (rd_P [.ref g0, .long p0] (dC, dI) vwCl (Wm g0 g1 g2 cB cC u) [(cB, .long), (cC, .long)]) (k2_QcV (.long (f_X4_sign u p0))) 0 0 (fun _ => False) := by
  refine Met.ofW (cc := cX4_sign) (maxL := 3) (ret := (some .long)) (by decide) rfl ?_
  intro p e s m args below meth c s₁ B hml hv
  obtain ⟨rfl, hP, hK⟩ := hv
  have hx := B.exec
  have hb := B.bytes
  have hr := B.returns
  have hts0 := atoms_spec (ws := wsX4_sign) B.pre
  have hts := fun (w : Cond) (h : w ∈ lw_G) => hts0 w (List.mem_cons_of_mem _ h)
  have hown : s.vm.findClass RX4 = some m.cls := findClass_of_methodNamed B.named
  have hlocks := B.notSynchronized
  have hl := lv_entry ([.ref g0, .long p0]) (n := 3) (Nat.le_of_ble_eq_true rfl)
  rw [lg_entry_eq]
  generalize (lg_sl ([.ref g0, .long p0]) ++ List.replicate (3 - (lg_sl ([.ref g0, .long p0])).length) Slot.unset).toArray = ls at hl ⊢
  have hl : lv_has ls 3 [(0, .ref g0), (1, .long p0)] := hl
  refine lv_aload_n hx hb dX4_sign_0 rfl (lv_at hl 0 rfl) ?_
  refine va_get (D := (dC, dI)) (ci := 1) (v := .int u.2.2.2.2.1) (C := RX4) (T := TX4) (N := 13) hx hb hts inX4 hown hK hP 0 rfl rfl 4 (by decide) (hts _ qw_245) (fun _ h9 => h9) rfl dX4_sign_1 ?_
  refine lv_if_ge (tgt := 12) hx hb dX4_sign_4 (by decide) (fun c1 => ?_) (fun c1 => ?_)
  · refine lv_lconst (v := (0 : Int64)) hx hb dX4_sign_12 (by decide) ?_
    have hF : f_X4_sign u p0 = (0 : Int64) := by unfold f_X4_sign; rw [if_pos c1]
    exact W.lret (v := (0 : Int64)) hx hb hr (fun t ht hW => ⟨by rw [hF], ht⟩) (fun _ h => by cases h) dX4_sign_13
  · refine lv_lload_n hx hb dX4_sign_7 rfl (lv_at hl 1 rfl) ?_
    refine lv_lneg hx hb dX4_sign_8 ?_
    refine lv_goto (tgt := 13) hx hb dX4_sign_9 (by decide) ?_
    have hF : f_X4_sign u p0 = (-p0) := by unfold f_X4_sign; rw [if_neg c1]
    exact W.lret (v := (-p0)) hx hb hr (fun t ht hW => ⟨by rw [hF], ht⟩) (fun _ h => by cases h) dX4_sign_13

noncomputable def f_X4_immediateI (u : SmT) : Int64 :=
  ((f_X4_sign u (2048 : Int64)) + (f_X4_bits u (30 : Int32) (20 : Int32)).toInt64)
set_option maxHeartbeats 4000000 in
set_option maxRecDepth 100000 in
theorem mt_X4_immediateI (l : Launch) (dC : Nat → ClassId) (dI : Nat → Nat → Nat) (g0 g1 g2 : Nat) (cB cC : ClassId) (u : SmT)  : Met l yX4_immediateI wsX4_immediateI ({ frames := 1, cells := 0, slots := 0, locals := 24 }) (rd_P [.ref g0] (dC, dI) vwCl (Wm g0 g1 g2 cB cC u) [(cB, .long), (cC, .long)]) (k2_QcV (.long (f_X4_immediateI u))) 0 0 (fun _ => False) := by
  refine Met.ofW (cc := cX4_immediateI) (maxL := 1) (ret := (some .long)) (by decide) rfl ?_
  intro p e s m args below meth c s₁ B hml hv
  obtain ⟨rfl, hP, hK⟩ := hv
  have hx := B.exec
  have hb := B.bytes
  have hr := B.returns
  have hts0 := atoms_spec (ws := wsX4_immediateI) B.pre
  have hts := fun (w : Cond) (h : w ∈ lw_G) => hts0 w (List.mem_cons_of_mem _ h)
  have hown : s.vm.findClass RX4 = some m.cls := findClass_of_methodNamed B.named
  have hlocks := B.notSynchronized
  have hl := lv_entry ([.ref g0]) (n := 1) (Nat.le_of_ble_eq_true rfl)
  rw [lg_entry_eq]
  generalize (lg_sl ([.ref g0]) ++ List.replicate (1 - (lg_sl ([.ref g0])).length) Slot.unset).toArray = ls at hl ⊢
  have hl : lv_has ls 1 [(0, .ref g0)] := hl
  refine lv_aload_n hx hb dX4_immediateI_0 rfl (lv_at hl 0 rfl) ?_
  refine lv_ldc2 (v := (2048 : Int64)) hx hb hown (hts _ qw_259) dX4_immediateI_1 ?_
  refine W.callV (W.runV (As := [.long (2048 : Int64)]) (rest := []) ⟨hx, hb, hml, hown, hts⟩ (mt_X4_sign l dC dI g0 g1 g2 cB cC u (2048 : Int64)) (cwV 1 hts gX4_43_X4_sign rfl rfl rfl (by decide +kernel) ⟨Nat.le_of_ble_eq_true rfl, Nat.le_of_ble_eq_true rfl⟩) (rd_V hK hP (ci := 1) (q0 := 0) rfl rfl rfl) rfl rfl hl.1 rfl (lv_room (Nat.le_of_ble_eq_true rfl)) dX4_immediateI_4 ⟨Nat.le_of_ble_eq_true rfl, Nat.le_of_ble_eq_true rfl⟩) ?_
  refine W.eq (g2 := F0 m 7 ls [.long (f_X4_sign u (2048 : Int64))]) rfl ?_
  refine lv_aload_n hx hb dX4_immediateI_7 rfl (lv_at hl 0 rfl) ?_
  refine lv_bipush (v := (30 : Int32)) hx hb dX4_immediateI_8 (by decide) ?_
  refine lv_bipush (v := (20 : Int32)) hx hb dX4_immediateI_10 (by decide) ?_
  refine W.callV (W.runV (As := [.int (30 : Int32), .int (20 : Int32)]) (rest := [.long (f_X4_sign u (2048 : Int64))]) ⟨hx, hb, hml, hown, hts⟩ (mt_X4_bits l dC dI g0 g1 g2 cB cC u (30 : Int32) (20 : Int32) 20 11 (by decide) (by decide) (by decide) (by decide) (by decide)) (cwV 2 hts gX4_47_X4_bits rfl rfl rfl (by decide +kernel) ⟨Nat.le_of_ble_eq_true rfl, Nat.le_of_ble_eq_true rfl⟩) (rd_V hK hP (ci := 1) (q0 := 0) rfl rfl rfl) rfl rfl hl.1 rfl (lv_room (Nat.le_of_ble_eq_true rfl)) dX4_immediateI_12 ⟨Nat.le_of_ble_eq_true rfl, Nat.le_of_ble_eq_true rfl⟩) ?_
  refine W.eq (g2 := F0 m 15 ls [.int (f_X4_bits u (30 : Int32) (20 : Int32)), .long (f_X4_sign u (2048 : Int64))]) rfl ?_
  refine lv_i2l (v := (f_X4_bits u (30 : Int32) (20 : Int32)).toInt64) hx hb dX4_immediateI_15 rfl ?_
  refine lv_ladd hx hb dX4_immediateI_16 ?_
  have hF : f_X4_immediateI u = ((f_X4_sign u (2048 : Int64)) + (f_X4_bits u (30 : Int32) (20 : Int32)).toInt64) := rfl
  exact W.lret (v := ((f_X4_sign u (2048 : Int64)) + (f_X4_bits u (30 : Int32) (20 : Int32)).toInt64)) hx hb hr (fun t ht hW => ⟨by rw [hF], ht⟩) (fun _ h => by cases h) dX4_immediateI_17

noncomputable def f_X4_immediateS (u : SmT) : Int64 :=
  (((f_X4_sign u (2048 : Int64)) + ((32 : Int32) * (f_X4_bits u (30 : Int32) (25 : Int32))).toInt64) + (f_X4_bits u (11 : Int32) (7 : Int32)).toInt64)
set_option maxHeartbeats 4000000 in
set_option maxRecDepth 100000 in
theorem mt_X4_immediateS (l : Launch) (dC : Nat → ClassId) (dI : Nat → Nat → Nat) (g0 g1 g2 : Nat) (cB cC : ClassId) (u : SmT)  : Met l yX4_immediateS wsX4_immediateS ({ frames := 1, cells := 0, slots := 0, locals := 24 }) (rd_P [.ref g0] (dC, dI) vwCl (Wm g0 g1 g2 cB cC u) [(cB, .long), (cC, .long)]) (k2_QcV (.long (f_X4_immediateS u))) 0 0 (fun _ => False) := by
  refine Met.ofW (cc := cX4_immediateS) (maxL := 1) (ret := (some .long)) (by decide) rfl ?_
  intro p e s m args below meth c s₁ B hml hv
  obtain ⟨rfl, hP, hK⟩ := hv
  have hx := B.exec
  have hb := B.bytes
  have hr := B.returns
  have hts0 := atoms_spec (ws := wsX4_immediateS) B.pre
  have hts := fun (w : Cond) (h : w ∈ lw_G) => hts0 w (List.mem_cons_of_mem _ h)
  have hown : s.vm.findClass RX4 = some m.cls := findClass_of_methodNamed B.named
  have hlocks := B.notSynchronized
  have hl := lv_entry ([.ref g0]) (n := 1) (Nat.le_of_ble_eq_true rfl)
  rw [lg_entry_eq]
  generalize (lg_sl ([.ref g0]) ++ List.replicate (1 - (lg_sl ([.ref g0])).length) Slot.unset).toArray = ls at hl ⊢
  have hl : lv_has ls 1 [(0, .ref g0)] := hl
  refine lv_aload_n hx hb dX4_immediateS_0 rfl (lv_at hl 0 rfl) ?_
  refine lv_ldc2 (v := (2048 : Int64)) hx hb hown (hts _ qw_259) dX4_immediateS_1 ?_
  refine W.callV (W.runV (As := [.long (2048 : Int64)]) (rest := []) ⟨hx, hb, hml, hown, hts⟩ (mt_X4_sign l dC dI g0 g1 g2 cB cC u (2048 : Int64)) (cwV 1 hts gX4_43_X4_sign rfl rfl rfl (by decide +kernel) ⟨Nat.le_of_ble_eq_true rfl, Nat.le_of_ble_eq_true rfl⟩) (rd_V hK hP (ci := 1) (q0 := 0) rfl rfl rfl) rfl rfl hl.1 rfl (lv_room (Nat.le_of_ble_eq_true rfl)) dX4_immediateS_4 ⟨Nat.le_of_ble_eq_true rfl, Nat.le_of_ble_eq_true rfl⟩) ?_
  refine W.eq (g2 := F0 m 7 ls [.long (f_X4_sign u (2048 : Int64))]) rfl ?_
  refine lv_bipush (v := (32 : Int32)) hx hb dX4_immediateS_7 (by decide) ?_
  refine lv_aload_n hx hb dX4_immediateS_9 rfl (lv_at hl 0 rfl) ?_
  refine lv_bipush (v := (30 : Int32)) hx hb dX4_immediateS_10 (by decide) ?_
  refine lv_bipush (v := (25 : Int32)) hx hb dX4_immediateS_12 (by decide) ?_
  refine W.callV (W.runV (As := [.int (30 : Int32), .int (25 : Int32)]) (rest := [.int (32 : Int32), .long (f_X4_sign u (2048 : Int64))]) ⟨hx, hb, hml, hown, hts⟩ (mt_X4_bits l dC dI g0 g1 g2 cB cC u (30 : Int32) (25 : Int32) 25 6 (by decide) (by decide) (by decide) (by decide) (by decide)) (cwV 2 hts gX4_47_X4_bits rfl rfl rfl (by decide +kernel) ⟨Nat.le_of_ble_eq_true rfl, Nat.le_of_ble_eq_true rfl⟩) (rd_V hK hP (ci := 1) (q0 := 0) rfl rfl rfl) rfl rfl hl.1 rfl (lv_room (Nat.le_of_ble_eq_true rfl)) dX4_immediateS_14 ⟨Nat.le_of_ble_eq_true rfl, Nat.le_of_ble_eq_true rfl⟩) ?_
  refine W.eq (g2 := F0 m 17 ls [.int (f_X4_bits u (30 : Int32) (25 : Int32)), .int (32 : Int32), .long (f_X4_sign u (2048 : Int64))]) rfl ?_
  refine lv_imul hx hb dX4_immediateS_17 ?_
  refine lv_i2l (v := ((32 : Int32) * (f_X4_bits u (30 : Int32) (25 : Int32))).toInt64) hx hb dX4_immediateS_18 rfl ?_
  refine lv_ladd hx hb dX4_immediateS_19 ?_
  refine lv_aload_n hx hb dX4_immediateS_20 rfl (lv_at hl 0 rfl) ?_
  refine lv_bipush (v := (11 : Int32)) hx hb dX4_immediateS_21 (by decide) ?_
  refine lv_bipush (v := (7 : Int32)) hx hb dX4_immediateS_23 (by decide) ?_
  refine W.callV (W.runV (As := [.int (11 : Int32), .int (7 : Int32)]) (rest := [.long ((f_X4_sign u (2048 : Int64)) + ((32 : Int32) * (f_X4_bits u (30 : Int32) (25 : Int32))).toInt64)]) ⟨hx, hb, hml, hown, hts⟩ (mt_X4_bits l dC dI g0 g1 g2 cB cC u (11 : Int32) (7 : Int32) 7 5 (by decide) (by decide) (by decide) (by decide) (by decide)) (cwV 2 hts gX4_47_X4_bits rfl rfl rfl (by decide +kernel) ⟨Nat.le_of_ble_eq_true rfl, Nat.le_of_ble_eq_true rfl⟩) (rd_V hK hP (ci := 1) (q0 := 0) rfl rfl rfl) rfl rfl hl.1 rfl (lv_room (Nat.le_of_ble_eq_true rfl)) dX4_immediateS_25 ⟨Nat.le_of_ble_eq_true rfl, Nat.le_of_ble_eq_true rfl⟩) ?_
  refine W.eq (g2 := F0 m 28 ls [.int (f_X4_bits u (11 : Int32) (7 : Int32)), .long ((f_X4_sign u (2048 : Int64)) + ((32 : Int32) * (f_X4_bits u (30 : Int32) (25 : Int32))).toInt64)]) rfl ?_
  refine lv_i2l (v := (f_X4_bits u (11 : Int32) (7 : Int32)).toInt64) hx hb dX4_immediateS_28 rfl ?_
  refine lv_ladd hx hb dX4_immediateS_29 ?_
  have hF : f_X4_immediateS u = (((f_X4_sign u (2048 : Int64)) + ((32 : Int32) * (f_X4_bits u (30 : Int32) (25 : Int32))).toInt64) + (f_X4_bits u (11 : Int32) (7 : Int32)).toInt64) := rfl
  exact W.lret (v := (((f_X4_sign u (2048 : Int64)) + ((32 : Int32) * (f_X4_bits u (30 : Int32) (25 : Int32))).toInt64) + (f_X4_bits u (11 : Int32) (7 : Int32)).toInt64)) hx hb hr (fun t ht hW => ⟨by rw [hF], ht⟩) (fun _ h => by cases h) dX4_immediateS_30

noncomputable def f_X4_immediateB (u : SmT) : Int64 :=
  ((((f_X4_sign u (4096 : Int64)) + ((2048 : Int32) * (f_X4_bits u (7 : Int32) (7 : Int32))).toInt64) + ((32 : Int32) * (f_X4_bits u (30 : Int32) (25 : Int32))).toInt64) + ((2 : Int32) * (f_X4_bits u (11 : Int32) (8 : Int32))).toInt64)
set_option maxHeartbeats 4000000 in
set_option maxRecDepth 100000 in
theorem mt_X4_immediateB (l : Launch) (dC : Nat → ClassId) (dI : Nat → Nat → Nat) (g0 g1 g2 : Nat) (cB cC : ClassId) (u : SmT)  : Met l yX4_immediateB wsX4_immediateB ({ frames := 1, cells := 0, slots := 0, locals := 24 }) (rd_P [.ref g0] (dC, dI) vwCl (Wm g0 g1 g2 cB cC u) [(cB, .long), (cC, .long)]) (k2_QcV (.long (f_X4_immediateB u))) 0 0 (fun _ => False) := by
  refine Met.ofW (cc := cX4_immediateB) (maxL := 1) (ret := (some .long)) (by decide) rfl ?_
  intro p e s m args below meth c s₁ B hml hv
  obtain ⟨rfl, hP, hK⟩ := hv
  have hx := B.exec
  have hb := B.bytes
  have hr := B.returns
  have hts0 := atoms_spec (ws := wsX4_immediateB) B.pre
  have hts := fun (w : Cond) (h : w ∈ lw_G) => hts0 w (List.mem_cons_of_mem _ h)
  have hown : s.vm.findClass RX4 = some m.cls := findClass_of_methodNamed B.named
  have hlocks := B.notSynchronized
  have hl := lv_entry ([.ref g0]) (n := 1) (Nat.le_of_ble_eq_true rfl)
  rw [lg_entry_eq]
  generalize (lg_sl ([.ref g0]) ++ List.replicate (1 - (lg_sl ([.ref g0])).length) Slot.unset).toArray = ls at hl ⊢
  have hl : lv_has ls 1 [(0, .ref g0)] := hl
  refine lv_aload_n hx hb dX4_immediateB_0 rfl (lv_at hl 0 rfl) ?_
  refine lv_ldc2 (v := (4096 : Int64)) hx hb hown (hts _ qw_268) dX4_immediateB_1 ?_
  refine W.callV (W.runV (As := [.long (4096 : Int64)]) (rest := []) ⟨hx, hb, hml, hown, hts⟩ (mt_X4_sign l dC dI g0 g1 g2 cB cC u (4096 : Int64)) (cwV 1 hts gX4_43_X4_sign rfl rfl rfl (by decide +kernel) ⟨Nat.le_of_ble_eq_true rfl, Nat.le_of_ble_eq_true rfl⟩) (rd_V hK hP (ci := 1) (q0 := 0) rfl rfl rfl) rfl rfl hl.1 rfl (lv_room (Nat.le_of_ble_eq_true rfl)) dX4_immediateB_4 ⟨Nat.le_of_ble_eq_true rfl, Nat.le_of_ble_eq_true rfl⟩) ?_
  refine W.eq (g2 := F0 m 7 ls [.long (f_X4_sign u (4096 : Int64))]) rfl ?_
  refine lv_sipush (v := (2048 : Int32)) hx hb dX4_immediateB_7 (by decide) ?_
  refine lv_aload_n hx hb dX4_immediateB_10 rfl (lv_at hl 0 rfl) ?_
  refine lv_bipush (v := (7 : Int32)) hx hb dX4_immediateB_11 (by decide) ?_
  refine lv_bipush (v := (7 : Int32)) hx hb dX4_immediateB_13 (by decide) ?_
  refine W.callV (W.runV (As := [.int (7 : Int32), .int (7 : Int32)]) (rest := [.int (2048 : Int32), .long (f_X4_sign u (4096 : Int64))]) ⟨hx, hb, hml, hown, hts⟩ (mt_X4_bits l dC dI g0 g1 g2 cB cC u (7 : Int32) (7 : Int32) 7 1 (by decide) (by decide) (by decide) (by decide) (by decide)) (cwV 2 hts gX4_47_X4_bits rfl rfl rfl (by decide +kernel) ⟨Nat.le_of_ble_eq_true rfl, Nat.le_of_ble_eq_true rfl⟩) (rd_V hK hP (ci := 1) (q0 := 0) rfl rfl rfl) rfl rfl hl.1 rfl (lv_room (Nat.le_of_ble_eq_true rfl)) dX4_immediateB_15 ⟨Nat.le_of_ble_eq_true rfl, Nat.le_of_ble_eq_true rfl⟩) ?_
  refine W.eq (g2 := F0 m 18 ls [.int (f_X4_bits u (7 : Int32) (7 : Int32)), .int (2048 : Int32), .long (f_X4_sign u (4096 : Int64))]) rfl ?_
  refine lv_imul hx hb dX4_immediateB_18 ?_
  refine lv_i2l (v := ((2048 : Int32) * (f_X4_bits u (7 : Int32) (7 : Int32))).toInt64) hx hb dX4_immediateB_19 rfl ?_
  refine lv_ladd hx hb dX4_immediateB_20 ?_
  refine lv_bipush (v := (32 : Int32)) hx hb dX4_immediateB_21 (by decide) ?_
  refine lv_aload_n hx hb dX4_immediateB_23 rfl (lv_at hl 0 rfl) ?_
  refine lv_bipush (v := (30 : Int32)) hx hb dX4_immediateB_24 (by decide) ?_
  refine lv_bipush (v := (25 : Int32)) hx hb dX4_immediateB_26 (by decide) ?_
  refine W.callV (W.runV (As := [.int (30 : Int32), .int (25 : Int32)]) (rest := [.int (32 : Int32), .long ((f_X4_sign u (4096 : Int64)) + ((2048 : Int32) * (f_X4_bits u (7 : Int32) (7 : Int32))).toInt64)]) ⟨hx, hb, hml, hown, hts⟩ (mt_X4_bits l dC dI g0 g1 g2 cB cC u (30 : Int32) (25 : Int32) 25 6 (by decide) (by decide) (by decide) (by decide) (by decide)) (cwV 2 hts gX4_47_X4_bits rfl rfl rfl (by decide +kernel) ⟨Nat.le_of_ble_eq_true rfl, Nat.le_of_ble_eq_true rfl⟩) (rd_V hK hP (ci := 1) (q0 := 0) rfl rfl rfl) rfl rfl hl.1 rfl (lv_room (Nat.le_of_ble_eq_true rfl)) dX4_immediateB_28 ⟨Nat.le_of_ble_eq_true rfl, Nat.le_of_ble_eq_true rfl⟩) ?_
  refine W.eq (g2 := F0 m 31 ls [.int (f_X4_bits u (30 : Int32) (25 : Int32)), .int (32 : Int32), .long ((f_X4_sign u (4096 : Int64)) + ((2048 : Int32) * (f_X4_bits u (7 : Int32) (7 : Int32))).toInt64)]) rfl ?_
  refine lv_imul hx hb dX4_immediateB_31 ?_
  refine lv_i2l (v := ((32 : Int32) * (f_X4_bits u (30 : Int32) (25 : Int32))).toInt64) hx hb dX4_immediateB_32 rfl ?_
  refine lv_ladd hx hb dX4_immediateB_33 ?_
  refine lv_iconst (v := (2 : Int32)) hx hb dX4_immediateB_34 (by decide) ?_
  refine lv_aload_n hx hb dX4_immediateB_35 rfl (lv_at hl 0 rfl) ?_
  refine lv_bipush (v := (11 : Int32)) hx hb dX4_immediateB_36 (by decide) ?_
  refine lv_bipush (v := (8 : Int32)) hx hb dX4_immediateB_38 (by decide) ?_
  refine W.callV (W.runV (As := [.int (11 : Int32), .int (8 : Int32)]) (rest := [.int (2 : Int32), .long (((f_X4_sign u (4096 : Int64)) + ((2048 : Int32) * (f_X4_bits u (7 : Int32) (7 : Int32))).toInt64) + ((32 : Int32) * (f_X4_bits u (30 : Int32) (25 : Int32))).toInt64)]) ⟨hx, hb, hml, hown, hts⟩ (mt_X4_bits l dC dI g0 g1 g2 cB cC u (11 : Int32) (8 : Int32) 8 4 (by decide) (by decide) (by decide) (by decide) (by decide)) (cwV 2 hts gX4_47_X4_bits rfl rfl rfl (by decide +kernel) ⟨Nat.le_of_ble_eq_true rfl, Nat.le_of_ble_eq_true rfl⟩) (rd_V hK hP (ci := 1) (q0 := 0) rfl rfl rfl) rfl rfl hl.1 rfl (lv_room (Nat.le_of_ble_eq_true rfl)) dX4_immediateB_40 ⟨Nat.le_of_ble_eq_true rfl, Nat.le_of_ble_eq_true rfl⟩) ?_
  refine W.eq (g2 := F0 m 43 ls [.int (f_X4_bits u (11 : Int32) (8 : Int32)), .int (2 : Int32), .long (((f_X4_sign u (4096 : Int64)) + ((2048 : Int32) * (f_X4_bits u (7 : Int32) (7 : Int32))).toInt64) + ((32 : Int32) * (f_X4_bits u (30 : Int32) (25 : Int32))).toInt64)]) rfl ?_
  refine lv_imul hx hb dX4_immediateB_43 ?_
  refine lv_i2l (v := ((2 : Int32) * (f_X4_bits u (11 : Int32) (8 : Int32))).toInt64) hx hb dX4_immediateB_44 rfl ?_
  refine lv_ladd hx hb dX4_immediateB_45 ?_
  have hF : f_X4_immediateB u = ((((f_X4_sign u (4096 : Int64)) + ((2048 : Int32) * (f_X4_bits u (7 : Int32) (7 : Int32))).toInt64) + ((32 : Int32) * (f_X4_bits u (30 : Int32) (25 : Int32))).toInt64) + ((2 : Int32) * (f_X4_bits u (11 : Int32) (8 : Int32))).toInt64) := rfl
  exact W.lret (v := ((((f_X4_sign u (4096 : Int64)) + ((2048 : Int32) * (f_X4_bits u (7 : Int32) (7 : Int32))).toInt64) + ((32 : Int32) * (f_X4_bits u (30 : Int32) (25 : Int32))).toInt64) + ((2 : Int32) * (f_X4_bits u (11 : Int32) (8 : Int32))).toInt64)) hx hb hr (fun t ht hW => ⟨by rw [hF], ht⟩) (fun _ h => by cases h) dX4_immediateB_46

noncomputable def f_X4_immediateU (u : SmT) : Int64 :=
  ((f_X4_sign u (2147483648 : Int64)) + ((4096 : Int64) * (f_X4_bits u (30 : Int32) (12 : Int32)).toInt64))
set_option maxHeartbeats 4000000 in
set_option maxRecDepth 100000 in
theorem mt_X4_immediateU (l : Launch) (dC : Nat → ClassId) (dI : Nat → Nat → Nat) (g0 g1 g2 : Nat) (cB cC : ClassId) (u : SmT)  : Met l yX4_immediateU wsX4_immediateU ({ frames := 1, cells := 0, slots := 0, locals := 24 }) (rd_P [.ref g0] (dC, dI) vwCl (Wm g0 g1 g2 cB cC u) [(cB, .long), (cC, .long)]) (k2_QcV (.long (f_X4_immediateU u))) 0 0 (fun _ => False) := by
  refine Met.ofW (cc := cX4_immediateU) (maxL := 1) (ret := (some .long)) (by decide) rfl ?_
  intro p e s m args below meth c s₁ B hml hv
  obtain ⟨rfl, hP, hK⟩ := hv
  have hx := B.exec
  have hb := B.bytes
  have hr := B.returns
  have hts0 := atoms_spec (ws := wsX4_immediateU) B.pre
  have hts := fun (w : Cond) (h : w ∈ lw_G) => hts0 w (List.mem_cons_of_mem _ h)
  have hown : s.vm.findClass RX4 = some m.cls := findClass_of_methodNamed B.named
  have hlocks := B.notSynchronized
  have hl := lv_entry ([.ref g0]) (n := 1) (Nat.le_of_ble_eq_true rfl)
  rw [lg_entry_eq]
  generalize (lg_sl ([.ref g0]) ++ List.replicate (1 - (lg_sl ([.ref g0])).length) Slot.unset).toArray = ls at hl ⊢
  have hl : lv_has ls 1 [(0, .ref g0)] := hl
  refine lv_aload_n hx hb dX4_immediateU_0 rfl (lv_at hl 0 rfl) ?_
  refine lv_ldc2 (v := (2147483648 : Int64)) hx hb hown (hts _ qw_269) dX4_immediateU_1 ?_
  refine W.callV (W.runV (As := [.long (2147483648 : Int64)]) (rest := []) ⟨hx, hb, hml, hown, hts⟩ (mt_X4_sign l dC dI g0 g1 g2 cB cC u (2147483648 : Int64)) (cwV 1 hts gX4_43_X4_sign rfl rfl rfl (by decide +kernel) ⟨Nat.le_of_ble_eq_true rfl, Nat.le_of_ble_eq_true rfl⟩) (rd_V hK hP (ci := 1) (q0 := 0) rfl rfl rfl) rfl rfl hl.1 rfl (lv_room (Nat.le_of_ble_eq_true rfl)) dX4_immediateU_4 ⟨Nat.le_of_ble_eq_true rfl, Nat.le_of_ble_eq_true rfl⟩) ?_
  refine W.eq (g2 := F0 m 7 ls [.long (f_X4_sign u (2147483648 : Int64))]) rfl ?_
  refine lv_ldc2 (v := (4096 : Int64)) hx hb hown (hts _ qw_268) dX4_immediateU_7 ?_
  refine lv_aload_n hx hb dX4_immediateU_10 rfl (lv_at hl 0 rfl) ?_
  refine lv_bipush (v := (30 : Int32)) hx hb dX4_immediateU_11 (by decide) ?_
  refine lv_bipush (v := (12 : Int32)) hx hb dX4_immediateU_13 (by decide) ?_
  refine W.callV (W.runV (As := [.int (30 : Int32), .int (12 : Int32)]) (rest := [.long (4096 : Int64), .long (f_X4_sign u (2147483648 : Int64))]) ⟨hx, hb, hml, hown, hts⟩ (mt_X4_bits l dC dI g0 g1 g2 cB cC u (30 : Int32) (12 : Int32) 12 19 (by decide) (by decide) (by decide) (by decide) (by decide)) (cwV 2 hts gX4_47_X4_bits rfl rfl rfl (by decide +kernel) ⟨Nat.le_of_ble_eq_true rfl, Nat.le_of_ble_eq_true rfl⟩) (rd_V hK hP (ci := 1) (q0 := 0) rfl rfl rfl) rfl rfl hl.1 rfl (lv_room (Nat.le_of_ble_eq_true rfl)) dX4_immediateU_15 ⟨Nat.le_of_ble_eq_true rfl, Nat.le_of_ble_eq_true rfl⟩) ?_
  refine W.eq (g2 := F0 m 18 ls [.int (f_X4_bits u (30 : Int32) (12 : Int32)), .long (4096 : Int64), .long (f_X4_sign u (2147483648 : Int64))]) rfl ?_
  refine lv_i2l (v := (f_X4_bits u (30 : Int32) (12 : Int32)).toInt64) hx hb dX4_immediateU_18 rfl ?_
  refine lv_lmul hx hb dX4_immediateU_19 ?_
  refine lv_ladd hx hb dX4_immediateU_20 ?_
  have hF : f_X4_immediateU u = ((f_X4_sign u (2147483648 : Int64)) + ((4096 : Int64) * (f_X4_bits u (30 : Int32) (12 : Int32)).toInt64)) := rfl
  exact W.lret (v := ((f_X4_sign u (2147483648 : Int64)) + ((4096 : Int64) * (f_X4_bits u (30 : Int32) (12 : Int32)).toInt64))) hx hb hr (fun t ht hW => ⟨by rw [hF], ht⟩) (fun _ h => by cases h) dX4_immediateU_21

noncomputable def f_X4_immediateJ (u : SmT) : Int64 :=
  ((((f_X4_sign u (1048576 : Int64)) + ((4096 : Int32) * (f_X4_bits u (19 : Int32) (12 : Int32))).toInt64) + ((2048 : Int32) * (f_X4_bits u (20 : Int32) (20 : Int32))).toInt64) + ((2 : Int32) * (f_X4_bits u (30 : Int32) (21 : Int32))).toInt64)
set_option maxHeartbeats 4000000 in
set_option maxRecDepth 100000 in
theorem mt_X4_immediateJ (l : Launch) (dC : Nat → ClassId) (dI : Nat → Nat → Nat) (g0 g1 g2 : Nat) (cB cC : ClassId) (u : SmT)  : Met l yX4_immediateJ wsX4_immediateJ ({ frames := 1, cells := 0, slots := 0, locals := 24 }) (rd_P [.ref g0] (dC, dI) vwCl (Wm g0 g1 g2 cB cC u) [(cB, .long), (cC, .long)]) (k2_QcV (.long (f_X4_immediateJ u))) 0 0 (fun _ => False) := by
  refine Met.ofW (cc := cX4_immediateJ) (maxL := 1) (ret := (some .long)) (by decide) rfl ?_
  intro p e s m args below meth c s₁ B hml hv
  obtain ⟨rfl, hP, hK⟩ := hv
  have hx := B.exec
  have hb := B.bytes
  have hr := B.returns
  have hts0 := atoms_spec (ws := wsX4_immediateJ) B.pre
  have hts := fun (w : Cond) (h : w ∈ lw_G) => hts0 w (List.mem_cons_of_mem _ h)
  have hown : s.vm.findClass RX4 = some m.cls := findClass_of_methodNamed B.named
  have hlocks := B.notSynchronized
  have hl := lv_entry ([.ref g0]) (n := 1) (Nat.le_of_ble_eq_true rfl)
  rw [lg_entry_eq]
  generalize (lg_sl ([.ref g0]) ++ List.replicate (1 - (lg_sl ([.ref g0])).length) Slot.unset).toArray = ls at hl ⊢
  have hl : lv_has ls 1 [(0, .ref g0)] := hl
  refine lv_aload_n hx hb dX4_immediateJ_0 rfl (lv_at hl 0 rfl) ?_
  refine lv_ldc2 (v := (1048576 : Int64)) hx hb hown (hts _ qw_270) dX4_immediateJ_1 ?_
  refine W.callV (W.runV (As := [.long (1048576 : Int64)]) (rest := []) ⟨hx, hb, hml, hown, hts⟩ (mt_X4_sign l dC dI g0 g1 g2 cB cC u (1048576 : Int64)) (cwV 1 hts gX4_43_X4_sign rfl rfl rfl (by decide +kernel) ⟨Nat.le_of_ble_eq_true rfl, Nat.le_of_ble_eq_true rfl⟩) (rd_V hK hP (ci := 1) (q0 := 0) rfl rfl rfl) rfl rfl hl.1 rfl (lv_room (Nat.le_of_ble_eq_true rfl)) dX4_immediateJ_4 ⟨Nat.le_of_ble_eq_true rfl, Nat.le_of_ble_eq_true rfl⟩) ?_
  refine W.eq (g2 := F0 m 7 ls [.long (f_X4_sign u (1048576 : Int64))]) rfl ?_
  refine lv_sipush (v := (4096 : Int32)) hx hb dX4_immediateJ_7 (by decide) ?_
  refine lv_aload_n hx hb dX4_immediateJ_10 rfl (lv_at hl 0 rfl) ?_
  refine lv_bipush (v := (19 : Int32)) hx hb dX4_immediateJ_11 (by decide) ?_
  refine lv_bipush (v := (12 : Int32)) hx hb dX4_immediateJ_13 (by decide) ?_
  refine W.callV (W.runV (As := [.int (19 : Int32), .int (12 : Int32)]) (rest := [.int (4096 : Int32), .long (f_X4_sign u (1048576 : Int64))]) ⟨hx, hb, hml, hown, hts⟩ (mt_X4_bits l dC dI g0 g1 g2 cB cC u (19 : Int32) (12 : Int32) 12 8 (by decide) (by decide) (by decide) (by decide) (by decide)) (cwV 2 hts gX4_47_X4_bits rfl rfl rfl (by decide +kernel) ⟨Nat.le_of_ble_eq_true rfl, Nat.le_of_ble_eq_true rfl⟩) (rd_V hK hP (ci := 1) (q0 := 0) rfl rfl rfl) rfl rfl hl.1 rfl (lv_room (Nat.le_of_ble_eq_true rfl)) dX4_immediateJ_15 ⟨Nat.le_of_ble_eq_true rfl, Nat.le_of_ble_eq_true rfl⟩) ?_
  refine W.eq (g2 := F0 m 18 ls [.int (f_X4_bits u (19 : Int32) (12 : Int32)), .int (4096 : Int32), .long (f_X4_sign u (1048576 : Int64))]) rfl ?_
  refine lv_imul hx hb dX4_immediateJ_18 ?_
  refine lv_i2l (v := ((4096 : Int32) * (f_X4_bits u (19 : Int32) (12 : Int32))).toInt64) hx hb dX4_immediateJ_19 rfl ?_
  refine lv_ladd hx hb dX4_immediateJ_20 ?_
  refine lv_sipush (v := (2048 : Int32)) hx hb dX4_immediateJ_21 (by decide) ?_
  refine lv_aload_n hx hb dX4_immediateJ_24 rfl (lv_at hl 0 rfl) ?_
  refine lv_bipush (v := (20 : Int32)) hx hb dX4_immediateJ_25 (by decide) ?_
  refine lv_bipush (v := (20 : Int32)) hx hb dX4_immediateJ_27 (by decide) ?_
  refine W.callV (W.runV (As := [.int (20 : Int32), .int (20 : Int32)]) (rest := [.int (2048 : Int32), .long ((f_X4_sign u (1048576 : Int64)) + ((4096 : Int32) * (f_X4_bits u (19 : Int32) (12 : Int32))).toInt64)]) ⟨hx, hb, hml, hown, hts⟩ (mt_X4_bits l dC dI g0 g1 g2 cB cC u (20 : Int32) (20 : Int32) 20 1 (by decide) (by decide) (by decide) (by decide) (by decide)) (cwV 2 hts gX4_47_X4_bits rfl rfl rfl (by decide +kernel) ⟨Nat.le_of_ble_eq_true rfl, Nat.le_of_ble_eq_true rfl⟩) (rd_V hK hP (ci := 1) (q0 := 0) rfl rfl rfl) rfl rfl hl.1 rfl (lv_room (Nat.le_of_ble_eq_true rfl)) dX4_immediateJ_29 ⟨Nat.le_of_ble_eq_true rfl, Nat.le_of_ble_eq_true rfl⟩) ?_
  refine W.eq (g2 := F0 m 32 ls [.int (f_X4_bits u (20 : Int32) (20 : Int32)), .int (2048 : Int32), .long ((f_X4_sign u (1048576 : Int64)) + ((4096 : Int32) * (f_X4_bits u (19 : Int32) (12 : Int32))).toInt64)]) rfl ?_
  refine lv_imul hx hb dX4_immediateJ_32 ?_
  refine lv_i2l (v := ((2048 : Int32) * (f_X4_bits u (20 : Int32) (20 : Int32))).toInt64) hx hb dX4_immediateJ_33 rfl ?_
  refine lv_ladd hx hb dX4_immediateJ_34 ?_
  refine lv_iconst (v := (2 : Int32)) hx hb dX4_immediateJ_35 (by decide) ?_
  refine lv_aload_n hx hb dX4_immediateJ_36 rfl (lv_at hl 0 rfl) ?_
  refine lv_bipush (v := (30 : Int32)) hx hb dX4_immediateJ_37 (by decide) ?_
  refine lv_bipush (v := (21 : Int32)) hx hb dX4_immediateJ_39 (by decide) ?_
  refine W.callV (W.runV (As := [.int (30 : Int32), .int (21 : Int32)]) (rest := [.int (2 : Int32), .long (((f_X4_sign u (1048576 : Int64)) + ((4096 : Int32) * (f_X4_bits u (19 : Int32) (12 : Int32))).toInt64) + ((2048 : Int32) * (f_X4_bits u (20 : Int32) (20 : Int32))).toInt64)]) ⟨hx, hb, hml, hown, hts⟩ (mt_X4_bits l dC dI g0 g1 g2 cB cC u (30 : Int32) (21 : Int32) 21 10 (by decide) (by decide) (by decide) (by decide) (by decide)) (cwV 2 hts gX4_47_X4_bits rfl rfl rfl (by decide +kernel) ⟨Nat.le_of_ble_eq_true rfl, Nat.le_of_ble_eq_true rfl⟩) (rd_V hK hP (ci := 1) (q0 := 0) rfl rfl rfl) rfl rfl hl.1 rfl (lv_room (Nat.le_of_ble_eq_true rfl)) dX4_immediateJ_41 ⟨Nat.le_of_ble_eq_true rfl, Nat.le_of_ble_eq_true rfl⟩) ?_
  refine W.eq (g2 := F0 m 44 ls [.int (f_X4_bits u (30 : Int32) (21 : Int32)), .int (2 : Int32), .long (((f_X4_sign u (1048576 : Int64)) + ((4096 : Int32) * (f_X4_bits u (19 : Int32) (12 : Int32))).toInt64) + ((2048 : Int32) * (f_X4_bits u (20 : Int32) (20 : Int32))).toInt64)]) rfl ?_
  refine lv_imul hx hb dX4_immediateJ_44 ?_
  refine lv_i2l (v := ((2 : Int32) * (f_X4_bits u (30 : Int32) (21 : Int32))).toInt64) hx hb dX4_immediateJ_45 rfl ?_
  refine lv_ladd hx hb dX4_immediateJ_46 ?_
  have hF : f_X4_immediateJ u = ((((f_X4_sign u (1048576 : Int64)) + ((4096 : Int32) * (f_X4_bits u (19 : Int32) (12 : Int32))).toInt64) + ((2048 : Int32) * (f_X4_bits u (20 : Int32) (20 : Int32))).toInt64) + ((2 : Int32) * (f_X4_bits u (30 : Int32) (21 : Int32))).toInt64) := rfl
  exact W.lret (v := ((((f_X4_sign u (1048576 : Int64)) + ((4096 : Int32) * (f_X4_bits u (19 : Int32) (12 : Int32))).toInt64) + ((2048 : Int32) * (f_X4_bits u (20 : Int32) (20 : Int32))).toInt64) + ((2 : Int32) * (f_X4_bits u (30 : Int32) (21 : Int32))).toInt64)) hx hb hr (fun t ht hW => ⟨by rw [hF], ht⟩) (fun _ h => by cases h) dX4_immediateJ_47

noncomputable def f_X4_loaded (u : SmT) (p0 : Int64) : Int64 :=
  if ((8 : Int64) * (u.2.2.2.2.2.2.2.2.2.2.1 (1 : Int32).toNatClampNeg)) = (64 : Int64) then
    p0
  else if (u.2.2.2.2.2.2.2.2.2.2.1 (3 : Int32).toNatClampNeg) = (0 : Int64) then
    if (p0 &&& ((j_lshl (1 : Int64) ((8 : Int64) * (u.2.2.2.2.2.2.2.2.2.2.1 (1 : Int32).toNatClampNeg)).toInt32) - (1 : Int64))) < ((j_lshl (1 : Int64) ((8 : Int64) * (u.2.2.2.2.2.2.2.2.2.2.1 (1 : Int32).toNatClampNeg)).toInt32) / (2 : Int64)) then
      (p0 &&& ((j_lshl (1 : Int64) ((8 : Int64) * (u.2.2.2.2.2.2.2.2.2.2.1 (1 : Int32).toNatClampNeg)).toInt32) - (1 : Int64)))
    else
      ((p0 &&& ((j_lshl (1 : Int64) ((8 : Int64) * (u.2.2.2.2.2.2.2.2.2.2.1 (1 : Int32).toNatClampNeg)).toInt32) - (1 : Int64))) - (j_lshl (1 : Int64) ((8 : Int64) * (u.2.2.2.2.2.2.2.2.2.2.1 (1 : Int32).toNatClampNeg)).toInt32))
  else
    (p0 &&& ((j_lshl (1 : Int64) ((8 : Int64) * (u.2.2.2.2.2.2.2.2.2.2.1 (1 : Int32).toNatClampNeg)).toInt32) - (1 : Int64)))
set_option maxHeartbeats 4000000 in
set_option maxRecDepth 100000 in
theorem mt_X4_loaded (l : Launch) (dC : Nat → ClassId) (dI : Nat → Nat → Nat) (g0 g1 g2 : Nat) (cB cC : ClassId) (u : SmT) (p0 : Int64) : Met l yX4_loaded wsX4_loaded ({ frames := 0, cells := 0, slots := 0, locals := 0 }) (rd_P [.ref g0, .long p0] (dC, dI) vwCl (Wm g0 g1 g2 cB cC u) [(cB, .long), (cC, .long)]) (k2_QcV (.long (f_X4_loaded u p0))) 0 0 (fun _ => False) := by
  refine Met.ofW (cc := cX4_loaded) (maxL := 9) (ret := (some .long)) (by decide) rfl ?_
  intro p e s m args below meth c s₁ B hml hv
  obtain ⟨rfl, hP, hK⟩ := hv
  have hx := B.exec
  have hb := B.bytes
  have hr := B.returns
  have hts0 := atoms_spec (ws := wsX4_loaded) B.pre
  have hts := fun (w : Cond) (h : w ∈ lw_G) => hts0 w (List.mem_cons_of_mem _ h)
  have hown : s.vm.findClass RX4 = some m.cls := findClass_of_methodNamed B.named
  have hlocks := B.notSynchronized
  have hl := lv_entry ([.ref g0, .long p0]) (n := 9) (Nat.le_of_ble_eq_true rfl)
  rw [lg_entry_eq]
  generalize (lg_sl ([.ref g0, .long p0]) ++ List.replicate (9 - (lg_sl ([.ref g0, .long p0])).length) Slot.unset).toArray = ls at hl ⊢
  have hl : lv_has ls 9 [(0, .ref g0), (1, .long p0)] := hl
  refine lv_ldc2 (v := (8 : Int64)) hx hb hown (hts _ qw_246) dX4_loaded_0 ?_
  refine lv_aload_n hx hb dX4_loaded_3 rfl (lv_at hl 0 rfl) ?_
  refine va_get (D := (dC, dI)) (ci := 1) (v := .ref g2) (C := RX4) (T := TX4) (N := 13) hx hb hts inX4 hown hK hP 0 rfl rfl 10 (by decide) (hts _ qw_271) (fun _ h9 => h9) rfl dX4_loaded_4 ?_
  refine lv_iconst (v := (1 : Int32)) hx hb dX4_loaded_7 (by decide) ?_
  refine va_lald hx hb hK hP 2 1 rfl rfl (by unfold vp_in; decide) dX4_loaded_8 ?_
  refine lv_lmul hx hb dX4_loaded_9 ?_
  refine lv_lstore_n (lv' := [(3, .long ((8 : Int64) * (u.2.2.2.2.2.2.2.2.2.2.1 (1 : Int32).toNatClampNeg))), (0, .ref g0), (1, .long p0)]) hx hb dX4_loaded_10 rfl hl (by decide) rfl (fun ls hl => ?_)
  refine lv_lload_n hx hb dX4_loaded_11 rfl (lv_at hl 0 rfl) ?_
  refine lv_ldc2 (v := (64 : Int64)) hx hb hown (hts _ qw_272) dX4_loaded_12 ?_
  refine W.lcmp hx hb dX4_loaded_15 ?_
  refine lv_if_ne (tgt := 21) hx hb dX4_loaded_16 (by decide) (fun c1 => ?_) (fun c1 => ?_)
  · have c1 := mt (lg_cmp_eq ((8 : Int64) * (u.2.2.2.2.2.2.2.2.2.2.1 (1 : Int32).toNatClampNeg)) (64 : Int64)).mpr c1
    refine lv_lconst (v := (1 : Int64)) hx hb dX4_loaded_21 (by decide) ?_
    refine lv_lload_n hx hb dX4_loaded_22 rfl (lv_at hl 0 rfl) ?_
    refine lv_l2i (v := ((8 : Int64) * (u.2.2.2.2.2.2.2.2.2.2.1 (1 : Int32).toNatClampNeg)).toInt32) hx hb dX4_loaded_23 rfl ?_
    refine lv_lshl (v := (j_lshl (1 : Int64) ((8 : Int64) * (u.2.2.2.2.2.2.2.2.2.2.1 (1 : Int32).toNatClampNeg)).toInt32)) hx hb dX4_loaded_24 rfl ?_
    refine lv_lstore (lv' := [(5, .long (j_lshl (1 : Int64) ((8 : Int64) * (u.2.2.2.2.2.2.2.2.2.2.1 (1 : Int32).toNatClampNeg)).toInt32)), (3, .long ((8 : Int64) * (u.2.2.2.2.2.2.2.2.2.2.1 (1 : Int32).toNatClampNeg))), (0, .ref g0), (1, .long p0)]) hx hb dX4_loaded_25 hl (by decide) rfl (fun ls hl => ?_)
    refine lv_lload_n hx hb dX4_loaded_27 rfl (lv_at hl 3 rfl) ?_
    refine lv_lload hx hb dX4_loaded_28 (lv_at hl 0 rfl) ?_
    refine lv_lconst (v := (1 : Int64)) hx hb dX4_loaded_30 (by decide) ?_
    refine lv_lsub hx hb dX4_loaded_31 ?_
    refine lv_land hx hb dX4_loaded_32 ?_
    refine lv_lstore (lv' := [(7, .long (p0 &&& ((j_lshl (1 : Int64) ((8 : Int64) * (u.2.2.2.2.2.2.2.2.2.2.1 (1 : Int32).toNatClampNeg)).toInt32) - (1 : Int64)))), (5, .long (j_lshl (1 : Int64) ((8 : Int64) * (u.2.2.2.2.2.2.2.2.2.2.1 (1 : Int32).toNatClampNeg)).toInt32)), (3, .long ((8 : Int64) * (u.2.2.2.2.2.2.2.2.2.2.1 (1 : Int32).toNatClampNeg))), (0, .ref g0), (1, .long p0)]) hx hb dX4_loaded_33 hl (by decide) rfl (fun ls hl => ?_)
    refine lv_aload_n hx hb dX4_loaded_35 rfl (lv_at hl 3 rfl) ?_
    refine va_get (D := (dC, dI)) (ci := 1) (v := .ref g2) (C := RX4) (T := TX4) (N := 13) hx hb hts inX4 hown hK hP 0 rfl rfl 10 (by decide) (hts _ qw_271) (fun _ h9 => h9) rfl dX4_loaded_36 ?_
    refine lv_iconst (v := (3 : Int32)) hx hb dX4_loaded_39 (by decide) ?_
    refine va_lald hx hb hK hP 2 1 rfl rfl (by unfold vp_in; decide) dX4_loaded_40 ?_
    refine lv_lconst (v := (0 : Int64)) hx hb dX4_loaded_41 (by decide) ?_
    refine W.lcmp hx hb dX4_loaded_42 ?_
    refine lv_if_ne (tgt := 66) hx hb dX4_loaded_43 (by decide) (fun c2 => ?_) (fun c2 => ?_)
    · have c2 := mt (lg_cmp_eq (u.2.2.2.2.2.2.2.2.2.2.1 (3 : Int32).toNatClampNeg) (0 : Int64)).mpr c2
      refine lv_lload hx hb dX4_loaded_66 (lv_at hl 0 rfl) ?_
      have hF : f_X4_loaded u p0 = (p0 &&& ((j_lshl (1 : Int64) ((8 : Int64) * (u.2.2.2.2.2.2.2.2.2.2.1 (1 : Int32).toNatClampNeg)).toInt32) - (1 : Int64))) := by unfold f_X4_loaded; rw [if_neg c1, if_neg c2]
      exact W.lret (v := (p0 &&& ((j_lshl (1 : Int64) ((8 : Int64) * (u.2.2.2.2.2.2.2.2.2.2.1 (1 : Int32).toNatClampNeg)).toInt32) - (1 : Int64)))) hx hb hr (fun t ht hW => ⟨by rw [hF], ht⟩) (fun _ h => by cases h) dX4_loaded_68
    · have c2 := (lg_cmp_eq (u.2.2.2.2.2.2.2.2.2.2.1 (3 : Int32).toNatClampNeg) (0 : Int64)).mp c2
      refine lv_lload hx hb dX4_loaded_46 (lv_at hl 0 rfl) ?_
      refine lv_lload hx hb dX4_loaded_48 (lv_at hl 1 rfl) ?_
      refine lv_ldc2 (v := (2 : Int64)) hx hb hown (hts _ qw_248) dX4_loaded_50 ?_
      refine lv_ldiv hx hb dX4_loaded_53 (by decide) ?_
      refine W.lcmp hx hb dX4_loaded_54 ?_
      refine lv_if_lt (tgt := 66) hx hb dX4_loaded_55 (by decide) (fun c3 => ?_) (fun c3 => ?_)
      · have c3 := (lg_cmp_lt (p0 &&& ((j_lshl (1 : Int64) ((8 : Int64) * (u.2.2.2.2.2.2.2.2.2.2.1 (1 : Int32).toNatClampNeg)).toInt32) - (1 : Int64))) ((j_lshl (1 : Int64) ((8 : Int64) * (u.2.2.2.2.2.2.2.2.2.2.1 (1 : Int32).toNatClampNeg)).toInt32) / (2 : Int64))).mp c3
        refine lv_lload hx hb dX4_loaded_66 (lv_at hl 0 rfl) ?_
        have hF : f_X4_loaded u p0 = (p0 &&& ((j_lshl (1 : Int64) ((8 : Int64) * (u.2.2.2.2.2.2.2.2.2.2.1 (1 : Int32).toNatClampNeg)).toInt32) - (1 : Int64))) := by unfold f_X4_loaded; rw [if_neg c1, if_pos c2, if_pos c3]
        exact W.lret (v := (p0 &&& ((j_lshl (1 : Int64) ((8 : Int64) * (u.2.2.2.2.2.2.2.2.2.2.1 (1 : Int32).toNatClampNeg)).toInt32) - (1 : Int64)))) hx hb hr (fun t ht hW => ⟨by rw [hF], ht⟩) (fun _ h => by cases h) dX4_loaded_68
      · have c3 := mt (lg_cmp_lt (p0 &&& ((j_lshl (1 : Int64) ((8 : Int64) * (u.2.2.2.2.2.2.2.2.2.2.1 (1 : Int32).toNatClampNeg)).toInt32) - (1 : Int64))) ((j_lshl (1 : Int64) ((8 : Int64) * (u.2.2.2.2.2.2.2.2.2.2.1 (1 : Int32).toNatClampNeg)).toInt32) / (2 : Int64))).mpr c3
        refine lv_lload hx hb dX4_loaded_58 (lv_at hl 0 rfl) ?_
        refine lv_lload hx hb dX4_loaded_60 (lv_at hl 1 rfl) ?_
        refine lv_lsub hx hb dX4_loaded_62 ?_
        refine lv_goto (tgt := 68) hx hb dX4_loaded_63 (by decide) ?_
        have hF : f_X4_loaded u p0 = ((p0 &&& ((j_lshl (1 : Int64) ((8 : Int64) * (u.2.2.2.2.2.2.2.2.2.2.1 (1 : Int32).toNatClampNeg)).toInt32) - (1 : Int64))) - (j_lshl (1 : Int64) ((8 : Int64) * (u.2.2.2.2.2.2.2.2.2.2.1 (1 : Int32).toNatClampNeg)).toInt32)) := by unfold f_X4_loaded; rw [if_neg c1, if_pos c2, if_neg c3]
        exact W.lret (v := ((p0 &&& ((j_lshl (1 : Int64) ((8 : Int64) * (u.2.2.2.2.2.2.2.2.2.2.1 (1 : Int32).toNatClampNeg)).toInt32) - (1 : Int64))) - (j_lshl (1 : Int64) ((8 : Int64) * (u.2.2.2.2.2.2.2.2.2.2.1 (1 : Int32).toNatClampNeg)).toInt32))) hx hb hr (fun t ht hW => ⟨by rw [hF], ht⟩) (fun _ h => by cases h) dX4_loaded_68
  · have c1 := (lg_cmp_eq ((8 : Int64) * (u.2.2.2.2.2.2.2.2.2.2.1 (1 : Int32).toNatClampNeg)) (64 : Int64)).mp c1
    refine lv_lload_n hx hb dX4_loaded_19 rfl (lv_at hl 2 rfl) ?_
    have hF : f_X4_loaded u p0 = p0 := by unfold f_X4_loaded; rw [if_pos c1]
    exact W.lret (v := p0) hx hb hr (fun t ht hW => ⟨by rw [hF], ht⟩) (fun _ h => by cases h) dX4_loaded_20
