theorem bd_a (w : Int32) : vp_in (f_X2_a w) 32 := by
  unfold f_X2_a f_X2_bits
  exact pk_andIn _ 5 (by decide) (by decide)
theorem bd_b (w : Int32) : vp_in (f_X2_b w) 32 := by
  unfold f_X2_b f_X2_bits
  exact pk_andIn _ 5 (by decide) (by decide)
theorem bd_reg (r : Int32) (h : ¬ f_X3_isRegister r = 0) : vp_in r 32 := by
  unfold f_X3_isRegister at h
  by_cases c1 : r < 0
  · exact absurd (by rw [if_pos c1]) h
  · by_cases c2 : (32 : Int32) ≤ r
    · exact absurd (by rw [if_neg c1, if_pos c2]) h
    · refine vp_in_iff.mpr ?_
      rw [Int32.lt_iff_toInt_lt] at c1
      rw [Int32.le_iff_toInt_le] at c2
      have h32 : (32 : Int32).toInt = 32 := by decide
      have h0 : (0 : Int32).toInt = 0 := by decide
      omega
theorem reg_in (r : Int32) (h : vp_in r 32) : ¬ f_X3_isRegister r = 0 := by
  have h1 := vp_in_iff.mp h
  have h32 : (32 : Int32).toInt = 32 := by decide
  have h0 : (0 : Int32).toInt = 0 := by decide
  have c1 : ¬ r < 0 := by rw [Int32.lt_iff_toInt_lt]; omega
  have c2 : ¬ (32 : Int32) ≤ r := by rw [Int32.le_iff_toInt_le]; omega
  unfold f_X3_isRegister
  rw [if_neg c1, if_neg c2]
  decide
def f_X3_held (u : ScT) (p0 : Int32) : Int64 :=
  if (f_X3_isRegister p0) = 0 then
    (0 : Int64)
  else
    (u.1 p0.toNatClampNeg)
set_option maxHeartbeats 4000000 in
set_option maxRecDepth 100000 in
theorem mt_X3_held (l : Launch) (dC : Nat → ClassId) (dI : Nat → Nat → Nat) (h0 h1 : Nat) (cA : ClassId) (u : ScT) (p0 : Int32) : Met l yX3_held wsX3_held ({ frames := 1, cells := 0, slots := 0, locals := 20 }) (rd_P [.ref h0, .int p0] (dC, dI) vwCl (Wc h0 h1 cA u) [(cA, .long)]) (k2_QcV (.long (f_X3_held u p0))) 0 0 (fun _ => False) := by
  refine Met.ofW (cc := cX3_held) (maxL := 2) (ret := (some .long)) (by decide) rfl ?_
  intro p e s m args below meth c s₁ B hml hv
  obtain ⟨rfl, hP, hK⟩ := hv
  have hx := B.exec
  have hb := B.bytes
  have hr := B.returns
  have hts0 := atoms_spec (ws := wsX3_held) B.pre
  have hts := fun (w : Cond) (h : w ∈ lw_G) => hts0 w (List.mem_cons_of_mem _ h)
  have hown : s.vm.findClass RX3 = some m.cls := findClass_of_methodNamed B.named
  have hlocks := B.notSynchronized
  have hl := lv_entry ([.ref h0, .int p0]) (n := 2) (Nat.le_of_ble_eq_true rfl)
  rw [lg_entry_eq]
  generalize (lg_sl ([.ref h0, .int p0]) ++ List.replicate (2 - (lg_sl ([.ref h0, .int p0])).length) Slot.unset).toArray = ls at hl ⊢
  have hl : lv_has ls 2 [(0, .ref h0), (1, .int p0)] := hl
  refine lv_iload_n hx hb dX3_held_0 rfl (lv_at hl 1 rfl) ?_
  refine W.callV (W.runS (As := [.int p0]) (rest := []) ⟨hx, hb, hml, hown, hts⟩ (mt_X3_isRegister l p0) (va_cwS 1 hts gX3_17_X3_isRegister rfl rfl rfl (by decide +kernel) ⟨Nat.le_of_ble_eq_true rfl, Nat.le_of_ble_eq_true rfl⟩) preEq rfl rfl hl.1 rfl (lv_room (Nat.le_of_ble_eq_true rfl)) dX3_held_1 ⟨Nat.le_of_ble_eq_true rfl, Nat.le_of_ble_eq_true rfl⟩) ?_
  refine W.eq (g2 := F0 m 4 ls [.int (f_X3_isRegister p0)]) rfl ?_
  refine lv_if_eq (tgt := 16) hx hb dX3_held_4 (by decide) (fun c1 => ?_) (fun c1 => ?_)
  · refine lv_lconst (v := (0 : Int64)) hx hb dX3_held_16 (by decide) ?_
    have hF : f_X3_held u p0 = (0 : Int64) := by unfold f_X3_held; rw [if_pos c1]
    exact W.lret (v := (0 : Int64)) hx hb hr (fun t ht hW => ⟨by rw [hF], ht⟩) (fun _ h => by cases h) dX3_held_17
  · refine lv_aload_n hx hb dX3_held_7 rfl (lv_at hl 0 rfl) ?_
    refine va_get (D := (dC, dI)) (ci := 0) (v := .ref h1) (C := RX3) (T := TX3) (N := 10) hx hb hts inX3 hown hK hP 0 rfl rfl 0 (by decide) (hts _ qw_50) (fun _ h9 => h9) rfl dX3_held_8 ?_
    refine lv_iload_n hx hb dX3_held_11 rfl (lv_at hl 1 rfl) ?_
    refine va_lald hx hb hK hP 1 0 rfl rfl (bd_reg _ c1) dX3_held_12 ?_
    refine lv_goto (tgt := 17) hx hb dX3_held_13 (by decide) ?_
    have hF : f_X3_held u p0 = (u.1 p0.toNatClampNeg) := by unfold f_X3_held; rw [if_neg c1]
    exact W.lret (v := (u.1 p0.toNatClampNeg)) hx hb hr (fun t ht hW => ⟨by rw [hF], ht⟩) (fun _ h => by cases h) dX3_held_17

def f_X3_x (u : ScT) (p0 : Int32) : Int64 :=
  (f_X3_held u (f_X2_a p0))
set_option maxHeartbeats 4000000 in
set_option maxRecDepth 100000 in
theorem mt_X3_x (l : Launch) (dC : Nat → ClassId) (dI : Nat → Nat → Nat) (h0 h1 : Nat) (cA : ClassId) (u : ScT) (p0 : Int32) : Met l yX3_x wsX3_x ({ frames := 2, cells := 0, slots := 0, locals := 42 }) (rd_P [.ref h0, .int p0] (dC, dI) vwCl (Wc h0 h1 cA u) [(cA, .long)]) (k2_QcV (.long (f_X3_x u p0))) 0 0 (fun _ => False) := by
  refine Met.ofW (cc := cX3_x) (maxL := 2) (ret := (some .long)) (by decide) rfl ?_
  intro p e s m args below meth c s₁ B hml hv
  obtain ⟨rfl, hP, hK⟩ := hv
  have hx := B.exec
  have hb := B.bytes
  have hr := B.returns
  have hts0 := atoms_spec (ws := wsX3_x) B.pre
  have hts := fun (w : Cond) (h : w ∈ lw_G) => hts0 w (List.mem_cons_of_mem _ h)
  have hown : s.vm.findClass RX3 = some m.cls := findClass_of_methodNamed B.named
  have hlocks := B.notSynchronized
  have hl := lv_entry ([.ref h0, .int p0]) (n := 2) (Nat.le_of_ble_eq_true rfl)
  rw [lg_entry_eq]
  generalize (lg_sl ([.ref h0, .int p0]) ++ List.replicate (2 - (lg_sl ([.ref h0, .int p0])).length) Slot.unset).toArray = ls at hl ⊢
  have hl : lv_has ls 2 [(0, .ref h0), (1, .int p0)] := hl
  refine lv_aload_n hx hb dX3_x_0 rfl (lv_at hl 0 rfl) ?_
  refine lv_iload_n hx hb dX3_x_1 rfl (lv_at hl 1 rfl) ?_
  refine W.callV (W.runS (As := [.int p0]) (rest := [.ref h0]) ⟨hx, hb, hml, hown, hts⟩ (mt_X2_a l p0) (va_cwS 1 hts gX3_148_X2_a rfl rfl rfl (by decide +kernel) ⟨Nat.le_of_ble_eq_true rfl, Nat.le_of_ble_eq_true rfl⟩) preEq rfl rfl hl.1 rfl (lv_room (Nat.le_of_ble_eq_true rfl)) dX3_x_2 ⟨Nat.le_of_ble_eq_true rfl, Nat.le_of_ble_eq_true rfl⟩) ?_
  refine W.eq (g2 := F0 m 5 ls [.int (f_X2_a p0), .ref h0]) rfl ?_
  refine W.callV (W.runV (As := [.int (f_X2_a p0)]) (rest := []) ⟨hx, hb, hml, hown, hts⟩ (mt_X3_held l dC dI h0 h1 cA u (f_X2_a p0)) (cwV 1 hts gX3_151_X3_held rfl rfl rfl (by decide +kernel) ⟨Nat.le_of_ble_eq_true rfl, Nat.le_of_ble_eq_true rfl⟩) (rd_V hK hP (ci := 0) (q0 := 0) rfl rfl rfl) rfl rfl hl.1 rfl (lv_room (Nat.le_of_ble_eq_true rfl)) dX3_x_5 ⟨Nat.le_of_ble_eq_true rfl, Nat.le_of_ble_eq_true rfl⟩) ?_
  refine W.eq (g2 := F0 m 8 ls [.long (f_X3_held u (f_X2_a p0))]) rfl ?_
  have hF : f_X3_x u p0 = (f_X3_held u (f_X2_a p0)) := rfl
  exact W.lret (v := (f_X3_held u (f_X2_a p0))) hx hb hr (fun t ht hW => ⟨by rw [hF], ht⟩) (fun _ h => by cases h) dX3_x_8

def f_X3_y (u : ScT) (p0 : Int32) : Int64 :=
  (f_X3_held u (f_X2_b p0))
set_option maxHeartbeats 4000000 in
set_option maxRecDepth 100000 in
theorem mt_X3_y (l : Launch) (dC : Nat → ClassId) (dI : Nat → Nat → Nat) (h0 h1 : Nat) (cA : ClassId) (u : ScT) (p0 : Int32) : Met l yX3_y wsX3_y ({ frames := 2, cells := 0, slots := 0, locals := 42 }) (rd_P [.ref h0, .int p0] (dC, dI) vwCl (Wc h0 h1 cA u) [(cA, .long)]) (k2_QcV (.long (f_X3_y u p0))) 0 0 (fun _ => False) := by
  refine Met.ofW (cc := cX3_y) (maxL := 2) (ret := (some .long)) (by decide) rfl ?_
  intro p e s m args below meth c s₁ B hml hv
  obtain ⟨rfl, hP, hK⟩ := hv
  have hx := B.exec
  have hb := B.bytes
  have hr := B.returns
  have hts0 := atoms_spec (ws := wsX3_y) B.pre
  have hts := fun (w : Cond) (h : w ∈ lw_G) => hts0 w (List.mem_cons_of_mem _ h)
  have hown : s.vm.findClass RX3 = some m.cls := findClass_of_methodNamed B.named
  have hlocks := B.notSynchronized
  have hl := lv_entry ([.ref h0, .int p0]) (n := 2) (Nat.le_of_ble_eq_true rfl)
  rw [lg_entry_eq]
  generalize (lg_sl ([.ref h0, .int p0]) ++ List.replicate (2 - (lg_sl ([.ref h0, .int p0])).length) Slot.unset).toArray = ls at hl ⊢
  have hl : lv_has ls 2 [(0, .ref h0), (1, .int p0)] := hl
  refine lv_aload_n hx hb dX3_y_0 rfl (lv_at hl 0 rfl) ?_
  refine lv_iload_n hx hb dX3_y_1 rfl (lv_at hl 1 rfl) ?_
  refine W.callV (W.runS (As := [.int p0]) (rest := [.ref h0]) ⟨hx, hb, hml, hown, hts⟩ (mt_X2_b l p0) (va_cwS 1 hts gX3_154_X2_b rfl rfl rfl (by decide +kernel) ⟨Nat.le_of_ble_eq_true rfl, Nat.le_of_ble_eq_true rfl⟩) preEq rfl rfl hl.1 rfl (lv_room (Nat.le_of_ble_eq_true rfl)) dX3_y_2 ⟨Nat.le_of_ble_eq_true rfl, Nat.le_of_ble_eq_true rfl⟩) ?_
  refine W.eq (g2 := F0 m 5 ls [.int (f_X2_b p0), .ref h0]) rfl ?_
  refine W.callV (W.runV (As := [.int (f_X2_b p0)]) (rest := []) ⟨hx, hb, hml, hown, hts⟩ (mt_X3_held l dC dI h0 h1 cA u (f_X2_b p0)) (cwV 1 hts gX3_151_X3_held rfl rfl rfl (by decide +kernel) ⟨Nat.le_of_ble_eq_true rfl, Nat.le_of_ble_eq_true rfl⟩) (rd_V hK hP (ci := 0) (q0 := 0) rfl rfl rfl) rfl rfl hl.1 rfl (lv_room (Nat.le_of_ble_eq_true rfl)) dX3_y_5 ⟨Nat.le_of_ble_eq_true rfl, Nat.le_of_ble_eq_true rfl⟩) ?_
  refine W.eq (g2 := F0 m 8 ls [.long (f_X3_held u (f_X2_b p0))]) rfl ?_
  have hF : f_X3_y u p0 = (f_X3_held u (f_X2_b p0)) := rfl
  exact W.lret (v := (f_X3_held u (f_X2_b p0))) hx hb hr (fun t ht hW => ⟨by rw [hF], ht⟩) (fun _ h => by cases h) dX3_y_8

def f_X3_trimmed (u : ScT) (p0 : Int64) : Int64 :=
  if u.2.2.2.2.1 = (2 : Int32) then
    if u.2.2.2.2.2.2.2.2.1 = 0 then
      (j_lshr (j_lshl p0 ((64 : Int32) - ((8 : Int32) * u.2.2.2.2.2.2.1))) ((64 : Int32) - ((8 : Int32) * u.2.2.2.2.2.2.1)))
    else
      (j_lushr (j_lshl p0 ((64 : Int32) - ((8 : Int32) * u.2.2.2.2.2.2.1))) ((64 : Int32) - ((8 : Int32) * u.2.2.2.2.2.2.1)))
  else if u.2.2.2.2.1 = (4 : Int32) then
    if u.2.2.2.2.2.2.1 = (4 : Int32) then
      p0.toInt32.toInt64
    else
      p0
  else
    p0
set_option maxHeartbeats 4000000 in
set_option maxRecDepth 100000 in
theorem mt_X3_trimmed (l : Launch) (dC : Nat → ClassId) (dI : Nat → Nat → Nat) (h0 h1 : Nat) (cA : ClassId) (u : ScT) (p0 : Int64) : Met l yX3_trimmed wsX3_trimmed ({ frames := 0, cells := 0, slots := 0, locals := 0 }) (rd_P [.ref h0, .long p0] (dC, dI) vwCl (Wc h0 h1 cA u) [(cA, .long)]) (k2_QcV (.long (f_X3_trimmed u p0))) 0 0 (fun _ => False) := by
  refine Met.ofW (cc := cX3_trimmed) (maxL := 4) (ret := (some .long)) (by decide) rfl ?_
  intro p e s m args below meth c s₁ B hml hv
  obtain ⟨rfl, hP, hK⟩ := hv
  have hx := B.exec
  have hb := B.bytes
  have hr := B.returns
  have hts0 := atoms_spec (ws := wsX3_trimmed) B.pre
  have hts := fun (w : Cond) (h : w ∈ lw_G) => hts0 w (List.mem_cons_of_mem _ h)
  have hown : s.vm.findClass RX3 = some m.cls := findClass_of_methodNamed B.named
  have hlocks := B.notSynchronized
  have hl := lv_entry ([.ref h0, .long p0]) (n := 4) (Nat.le_of_ble_eq_true rfl)
  rw [lg_entry_eq]
  generalize (lg_sl ([.ref h0, .long p0]) ++ List.replicate (4 - (lg_sl ([.ref h0, .long p0])).length) Slot.unset).toArray = ls at hl ⊢
  have hl : lv_has ls 4 [(0, .ref h0), (1, .long p0)] := hl
  refine lv_aload_n hx hb dX3_trimmed_0 rfl (lv_at hl 0 rfl) ?_
  refine va_get (D := (dC, dI)) (ci := 0) (v := .int u.2.2.2.2.1) (C := RX3) (T := TX3) (N := 10) hx hb hts inX3 hown hK hP 0 rfl rfl 4 (by decide) (hts _ qw_61) (fun _ h9 => h9) rfl dX3_trimmed_1 ?_
  refine lv_iconst (v := (2 : Int32)) hx hb dX3_trimmed_4 (by decide) ?_
  refine lv_icmp_ne (tgt := 40) hx hb dX3_trimmed_5 (by decide) (fun c1 => ?_) (fun c1 => ?_)
  · refine lv_aload_n hx hb dX3_trimmed_40 rfl (lv_at hl 0 rfl) ?_
    refine va_get (D := (dC, dI)) (ci := 0) (v := .int u.2.2.2.2.1) (C := RX3) (T := TX3) (N := 10) hx hb hts inX3 hown hK hP 0 rfl rfl 4 (by decide) (hts _ qw_61) (fun _ h9 => h9) rfl dX3_trimmed_41 ?_
    refine lv_iconst (v := (4 : Int32)) hx hb dX3_trimmed_44 (by decide) ?_
    refine lv_icmp_ne (tgt := 60) hx hb dX3_trimmed_45 (by decide) (fun c2 => ?_) (fun c2 => ?_)
    · refine lv_lload_n hx hb dX3_trimmed_60 rfl (lv_at hl 1 rfl) ?_
      have hF : f_X3_trimmed u p0 = p0 := by unfold f_X3_trimmed; rw [if_neg c1, if_neg c2]
      exact W.lret (v := p0) hx hb hr (fun t ht hW => ⟨by rw [hF], ht⟩) (fun _ h => by cases h) dX3_trimmed_61
    · refine lv_aload_n hx hb dX3_trimmed_48 rfl (lv_at hl 0 rfl) ?_
      refine va_get (D := (dC, dI)) (ci := 0) (v := .int u.2.2.2.2.2.2.1) (C := RX3) (T := TX3) (N := 10) hx hb hts inX3 hown hK hP 0 rfl rfl 6 (by decide) (hts _ qw_62) (fun _ h9 => h9) rfl dX3_trimmed_49 ?_
      refine lv_iconst (v := (4 : Int32)) hx hb dX3_trimmed_52 (by decide) ?_
      refine lv_icmp_ne (tgt := 60) hx hb dX3_trimmed_53 (by decide) (fun c3 => ?_) (fun c3 => ?_)
      · refine lv_lload_n hx hb dX3_trimmed_60 rfl (lv_at hl 1 rfl) ?_
        have hF : f_X3_trimmed u p0 = p0 := by unfold f_X3_trimmed; rw [if_neg c1, if_pos c2, if_neg c3]
        exact W.lret (v := p0) hx hb hr (fun t ht hW => ⟨by rw [hF], ht⟩) (fun _ h => by cases h) dX3_trimmed_61
      · refine lv_lload_n hx hb dX3_trimmed_56 rfl (lv_at hl 1 rfl) ?_
        refine lv_l2i (v := p0.toInt32) hx hb dX3_trimmed_57 rfl ?_
        refine lv_i2l (v := p0.toInt32.toInt64) hx hb dX3_trimmed_58 rfl ?_
        have hF : f_X3_trimmed u p0 = p0.toInt32.toInt64 := by unfold f_X3_trimmed; rw [if_neg c1, if_pos c2, if_pos c3]
        exact W.lret (v := p0.toInt32.toInt64) hx hb hr (fun t ht hW => ⟨by rw [hF], ht⟩) (fun _ h => by cases h) dX3_trimmed_59
  · refine lv_bipush (v := (64 : Int32)) hx hb dX3_trimmed_8 (by decide) ?_
    refine lv_bipush (v := (8 : Int32)) hx hb dX3_trimmed_10 (by decide) ?_
    refine lv_aload_n hx hb dX3_trimmed_12 rfl (lv_at hl 0 rfl) ?_
    refine va_get (D := (dC, dI)) (ci := 0) (v := .int u.2.2.2.2.2.2.1) (C := RX3) (T := TX3) (N := 10) hx hb hts inX3 hown hK hP 0 rfl rfl 6 (by decide) (hts _ qw_62) (fun _ h9 => h9) rfl dX3_trimmed_13 ?_
    refine lv_imul hx hb dX3_trimmed_16 ?_
    refine lv_isub hx hb dX3_trimmed_17 ?_
    refine lv_istore_n (lv' := [(3, .int ((64 : Int32) - ((8 : Int32) * u.2.2.2.2.2.2.1))), (0, .ref h0), (1, .long p0)]) hx hb dX3_trimmed_18 rfl hl (by decide) rfl (fun ls hl => ?_)
    refine lv_aload_n hx hb dX3_trimmed_19 rfl (lv_at hl 1 rfl) ?_
    refine va_get (D := (dC, dI)) (ci := 0) (v := .int u.2.2.2.2.2.2.2.2.1) (C := RX3) (T := TX3) (N := 10) hx hb hts inX3 hown hK hP 0 rfl rfl 8 (by decide) (hts _ qw_63) (fun _ h9 => h9) rfl dX3_trimmed_20 ?_
    refine lv_if_ne (tgt := 34) hx hb dX3_trimmed_23 (by decide) (fun c4 => ?_) (fun c4 => ?_)
    · refine lv_lload_n hx hb dX3_trimmed_34 rfl (lv_at hl 2 rfl) ?_
      refine lv_iload_n hx hb dX3_trimmed_35 rfl (lv_at hl 0 rfl) ?_
      refine lv_lshl (v := (j_lshl p0 ((64 : Int32) - ((8 : Int32) * u.2.2.2.2.2.2.1)))) hx hb dX3_trimmed_36 rfl ?_
      refine lv_iload_n hx hb dX3_trimmed_37 rfl (lv_at hl 0 rfl) ?_
      refine lv_lushr (v := (j_lushr (j_lshl p0 ((64 : Int32) - ((8 : Int32) * u.2.2.2.2.2.2.1))) ((64 : Int32) - ((8 : Int32) * u.2.2.2.2.2.2.1)))) hx hb dX3_trimmed_38 rfl ?_
      have hF : f_X3_trimmed u p0 = (j_lushr (j_lshl p0 ((64 : Int32) - ((8 : Int32) * u.2.2.2.2.2.2.1))) ((64 : Int32) - ((8 : Int32) * u.2.2.2.2.2.2.1))) := by unfold f_X3_trimmed; rw [if_pos c1, if_neg c4]
      exact W.lret (v := (j_lushr (j_lshl p0 ((64 : Int32) - ((8 : Int32) * u.2.2.2.2.2.2.1))) ((64 : Int32) - ((8 : Int32) * u.2.2.2.2.2.2.1)))) hx hb hr (fun t ht hW => ⟨by rw [hF], ht⟩) (fun _ h => by cases h) dX3_trimmed_39
    · refine lv_lload_n hx hb dX3_trimmed_26 rfl (lv_at hl 2 rfl) ?_
      refine lv_iload_n hx hb dX3_trimmed_27 rfl (lv_at hl 0 rfl) ?_
      refine lv_lshl (v := (j_lshl p0 ((64 : Int32) - ((8 : Int32) * u.2.2.2.2.2.2.1)))) hx hb dX3_trimmed_28 rfl ?_
      refine lv_iload_n hx hb dX3_trimmed_29 rfl (lv_at hl 0 rfl) ?_
      refine lv_lshr (v := (j_lshr (j_lshl p0 ((64 : Int32) - ((8 : Int32) * u.2.2.2.2.2.2.1))) ((64 : Int32) - ((8 : Int32) * u.2.2.2.2.2.2.1)))) hx hb dX3_trimmed_30 rfl ?_
      refine lv_goto (tgt := 39) hx hb dX3_trimmed_31 (by decide) ?_
      have hF : f_X3_trimmed u p0 = (j_lshr (j_lshl p0 ((64 : Int32) - ((8 : Int32) * u.2.2.2.2.2.2.1))) ((64 : Int32) - ((8 : Int32) * u.2.2.2.2.2.2.1))) := by unfold f_X3_trimmed; rw [if_pos c1, if_pos c4]
      exact W.lret (v := (j_lshr (j_lshl p0 ((64 : Int32) - ((8 : Int32) * u.2.2.2.2.2.2.1))) ((64 : Int32) - ((8 : Int32) * u.2.2.2.2.2.2.1)))) hx hb hr (fun t ht hW => ⟨by rw [hF], ht⟩) (fun _ h => by cases h) dX3_trimmed_39

def f_X3_counter (u : ScT) : Int64 :=
  u.2.1
set_option maxHeartbeats 4000000 in
set_option maxRecDepth 100000 in
theorem mt_X3_counter (l : Launch) (dC : Nat → ClassId) (dI : Nat → Nat → Nat) (h0 h1 : Nat) (cA : ClassId) (u : ScT)  : Met l yX3_counter wsX3_counter ({ frames := 0, cells := 0, slots := 0, locals := 0 }) (rd_P [.ref h0] (dC, dI) vwCl (Wc h0 h1 cA u) [(cA, .long)]) (k2_QcV (.long (f_X3_counter u))) 0 0 (fun _ => False) := by
  refine Met.ofW (cc := cX3_counter) (maxL := 1) (ret := (some .long)) (by decide) rfl ?_
  intro p e s m args below meth c s₁ B hml hv
  obtain ⟨rfl, hP, hK⟩ := hv
  have hx := B.exec
  have hb := B.bytes
  have hr := B.returns
  have hts0 := atoms_spec (ws := wsX3_counter) B.pre
  have hts := fun (w : Cond) (h : w ∈ lw_G) => hts0 w (List.mem_cons_of_mem _ h)
  have hown : s.vm.findClass RX3 = some m.cls := findClass_of_methodNamed B.named
  have hlocks := B.notSynchronized
  have hl := lv_entry ([.ref h0]) (n := 1) (Nat.le_of_ble_eq_true rfl)
  rw [lg_entry_eq]
  generalize (lg_sl ([.ref h0]) ++ List.replicate (1 - (lg_sl ([.ref h0])).length) Slot.unset).toArray = ls at hl ⊢
  have hl : lv_has ls 1 [(0, .ref h0)] := hl
  refine lv_aload_n hx hb dX3_counter_0 rfl (lv_at hl 0 rfl) ?_
  refine va_get (D := (dC, dI)) (ci := 0) (v := .long u.2.1) (C := RX3) (T := TX3) (N := 10) hx hb hts inX3 hown hK hP 0 rfl rfl 1 (by decide) (hts _ qw_64) (fun _ h9 => h9) rfl dX3_counter_1 ?_
  have hF : f_X3_counter u = u.2.1 := rfl
  exact W.lret (v := u.2.1) hx hb hr (fun t ht hW => ⟨by rw [hF], ht⟩) (fun _ h => by cases h) dX3_counter_4

def f_X3_done (u : ScT) : Int64 :=
  u.2.2.1
set_option maxHeartbeats 4000000 in
set_option maxRecDepth 100000 in
theorem mt_X3_done (l : Launch) (dC : Nat → ClassId) (dI : Nat → Nat → Nat) (h0 h1 : Nat) (cA : ClassId) (u : ScT)  : Met l yX3_done wsX3_done ({ frames := 0, cells := 0, slots := 0, locals := 0 }) (rd_P [.ref h0] (dC, dI) vwCl (Wc h0 h1 cA u) [(cA, .long)]) (k2_QcV (.long (f_X3_done u))) 0 0 (fun _ => False) := by
  refine Met.ofW (cc := cX3_done) (maxL := 1) (ret := (some .long)) (by decide) rfl ?_
  intro p e s m args below meth c s₁ B hml hv
  obtain ⟨rfl, hP, hK⟩ := hv
  have hx := B.exec
  have hb := B.bytes
  have hr := B.returns
  have hts0 := atoms_spec (ws := wsX3_done) B.pre
  have hts := fun (w : Cond) (h : w ∈ lw_G) => hts0 w (List.mem_cons_of_mem _ h)
  have hown : s.vm.findClass RX3 = some m.cls := findClass_of_methodNamed B.named
  have hlocks := B.notSynchronized
  have hl := lv_entry ([.ref h0]) (n := 1) (Nat.le_of_ble_eq_true rfl)
  rw [lg_entry_eq]
  generalize (lg_sl ([.ref h0]) ++ List.replicate (1 - (lg_sl ([.ref h0])).length) Slot.unset).toArray = ls at hl ⊢
  have hl : lv_has ls 1 [(0, .ref h0)] := hl
  refine lv_aload_n hx hb dX3_done_0 rfl (lv_at hl 0 rfl) ?_
  refine va_get (D := (dC, dI)) (ci := 0) (v := .long u.2.2.1) (C := RX3) (T := TX3) (N := 10) hx hb hts inX3 hown hK hP 0 rfl rfl 2 (by decide) (hts _ qw_65) (fun _ h9 => h9) rfl dX3_done_1 ?_
  have hF : f_X3_done u = u.2.2.1 := rfl
  exact W.lret (v := u.2.2.1) hx hb hr (fun t ht hW => ⟨by rw [hF], ht⟩) (fun _ h => by cases h) dX3_done_4

def f_X3_wanted (u : ScT) (p0 : Int32) : Int64 :=
  if u.2.2.2.2.1 = 0 then
    (-1 : Int64)
  else if p0 = (0 : Int32) then
    u.2.2.2.2.2.1
  else if p0 = (1 : Int32) then
    u.2.2.2.2.2.2.1.toInt64
  else if p0 = (2 : Int32) then
    u.2.2.2.2.2.2.2.1
  else if p0 = (3 : Int32) then
    u.2.2.2.2.2.2.2.2.1.toInt64
  else if p0 = (4 : Int32) then
    u.2.2.2.2.2.2.2.2.2.toInt64
  else
    (-1 : Int64)
set_option maxHeartbeats 4000000 in
set_option maxRecDepth 100000 in
theorem mt_X3_wanted (l : Launch) (dC : Nat → ClassId) (dI : Nat → Nat → Nat) (h0 h1 : Nat) (cA : ClassId) (u : ScT) (p0 : Int32) : Met l yX3_wanted wsX3_wanted ({ frames := 0, cells := 0, slots := 0, locals := 0 }) (rd_P [.ref h0, .int p0] (dC, dI) vwCl (Wc h0 h1 cA u) [(cA, .long)]) (k2_QcV (.long (f_X3_wanted u p0))) 0 0 (fun _ => False) := by
  refine Met.ofW (cc := cX3_wanted) (maxL := 2) (ret := (some .long)) (by decide) rfl ?_
  intro p e s m args below meth c s₁ B hml hv
  obtain ⟨rfl, hP, hK⟩ := hv
  have hx := B.exec
  have hb := B.bytes
  have hr := B.returns
  have hts0 := atoms_spec (ws := wsX3_wanted) B.pre
  have hts := fun (w : Cond) (h : w ∈ lw_G) => hts0 w (List.mem_cons_of_mem _ h)
  have hown : s.vm.findClass RX3 = some m.cls := findClass_of_methodNamed B.named
  have hlocks := B.notSynchronized
  have hl := lv_entry ([.ref h0, .int p0]) (n := 2) (Nat.le_of_ble_eq_true rfl)
  rw [lg_entry_eq]
  generalize (lg_sl ([.ref h0, .int p0]) ++ List.replicate (2 - (lg_sl ([.ref h0, .int p0])).length) Slot.unset).toArray = ls at hl ⊢
  have hl : lv_has ls 2 [(0, .ref h0), (1, .int p0)] := hl
  refine lv_aload_n hx hb dX3_wanted_0 rfl (lv_at hl 0 rfl) ?_
  refine va_get (D := (dC, dI)) (ci := 0) (v := .int u.2.2.2.2.1) (C := RX3) (T := TX3) (N := 10) hx hb hts inX3 hown hK hP 0 rfl rfl 4 (by decide) (hts _ qw_61) (fun _ h9 => h9) rfl dX3_wanted_1 ?_
  refine lv_if_ne (tgt := 11) hx hb dX3_wanted_4 (by decide) (fun c1 => ?_) (fun c1 => ?_)
  · refine lv_iload_n hx hb dX3_wanted_11 rfl (lv_at hl 1 rfl) ?_
    by_cases c2 : p0 = (0 : Int32)
    · refine lv_tableIn (tgt := 48) (off := 36) hx hb dX3_wanted_12 (by rw [c2]; decide) (by rw [c2]; decide) (by rw [c2]; decide +kernel) (by decide) ?_
      refine lv_aload_n hx hb dX3_wanted_48 rfl (lv_at hl 0 rfl) ?_
      refine va_get (D := (dC, dI)) (ci := 0) (v := .long u.2.2.2.2.2.1) (C := RX3) (T := TX3) (N := 10) hx hb hts inX3 hown hK hP 0 rfl rfl 5 (by decide) (hts _ qw_66) (fun _ h9 => h9) rfl dX3_wanted_49 ?_
      have hF : f_X3_wanted u p0 = u.2.2.2.2.2.1 := by unfold f_X3_wanted; rw [if_neg c1, if_pos c2]
      exact W.lret (v := u.2.2.2.2.2.1) hx hb hr (fun t ht hW => ⟨by rw [hF], ht⟩) (fun _ h => by cases h) dX3_wanted_52
    · by_cases c3 : p0 = (1 : Int32)
      · refine lv_tableIn (tgt := 53) (off := 41) hx hb dX3_wanted_12 (by rw [c3]; decide) (by rw [c3]; decide) (by rw [c3]; decide +kernel) (by decide) ?_
        refine lv_aload_n hx hb dX3_wanted_53 rfl (lv_at hl 0 rfl) ?_
        refine va_get (D := (dC, dI)) (ci := 0) (v := .int u.2.2.2.2.2.2.1) (C := RX3) (T := TX3) (N := 10) hx hb hts inX3 hown hK hP 0 rfl rfl 6 (by decide) (hts _ qw_62) (fun _ h9 => h9) rfl dX3_wanted_54 ?_
        refine lv_i2l (v := u.2.2.2.2.2.2.1.toInt64) hx hb dX3_wanted_57 rfl ?_
        have hF : f_X3_wanted u p0 = u.2.2.2.2.2.2.1.toInt64 := by unfold f_X3_wanted; rw [if_neg c1, if_neg c2, if_pos c3]
        exact W.lret (v := u.2.2.2.2.2.2.1.toInt64) hx hb hr (fun t ht hW => ⟨by rw [hF], ht⟩) (fun _ h => by cases h) dX3_wanted_58
      · by_cases c4 : p0 = (2 : Int32)
        · refine lv_tableIn (tgt := 59) (off := 47) hx hb dX3_wanted_12 (by rw [c4]; decide) (by rw [c4]; decide) (by rw [c4]; decide +kernel) (by decide) ?_
          refine lv_aload_n hx hb dX3_wanted_59 rfl (lv_at hl 0 rfl) ?_
          refine va_get (D := (dC, dI)) (ci := 0) (v := .long u.2.2.2.2.2.2.2.1) (C := RX3) (T := TX3) (N := 10) hx hb hts inX3 hown hK hP 0 rfl rfl 7 (by decide) (hts _ qw_67) (fun _ h9 => h9) rfl dX3_wanted_60 ?_
          have hF : f_X3_wanted u p0 = u.2.2.2.2.2.2.2.1 := by unfold f_X3_wanted; rw [if_neg c1, if_neg c2, if_neg c3, if_pos c4]
          exact W.lret (v := u.2.2.2.2.2.2.2.1) hx hb hr (fun t ht hW => ⟨by rw [hF], ht⟩) (fun _ h => by cases h) dX3_wanted_63
        · by_cases c5 : p0 = (3 : Int32)
          · refine lv_tableIn (tgt := 64) (off := 52) hx hb dX3_wanted_12 (by rw [c5]; decide) (by rw [c5]; decide) (by rw [c5]; decide +kernel) (by decide) ?_
            refine lv_aload_n hx hb dX3_wanted_64 rfl (lv_at hl 0 rfl) ?_
            refine va_get (D := (dC, dI)) (ci := 0) (v := .int u.2.2.2.2.2.2.2.2.1) (C := RX3) (T := TX3) (N := 10) hx hb hts inX3 hown hK hP 0 rfl rfl 8 (by decide) (hts _ qw_63) (fun _ h9 => h9) rfl dX3_wanted_65 ?_
            refine lv_i2l (v := u.2.2.2.2.2.2.2.2.1.toInt64) hx hb dX3_wanted_68 rfl ?_
            have hF : f_X3_wanted u p0 = u.2.2.2.2.2.2.2.2.1.toInt64 := by unfold f_X3_wanted; rw [if_neg c1, if_neg c2, if_neg c3, if_neg c4, if_pos c5]
            exact W.lret (v := u.2.2.2.2.2.2.2.2.1.toInt64) hx hb hr (fun t ht hW => ⟨by rw [hF], ht⟩) (fun _ h => by cases h) dX3_wanted_69
          · by_cases c6 : p0 = (4 : Int32)
            · refine lv_tableIn (tgt := 70) (off := 58) hx hb dX3_wanted_12 (by rw [c6]; decide) (by rw [c6]; decide) (by rw [c6]; decide +kernel) (by decide) ?_
              refine lv_aload_n hx hb dX3_wanted_70 rfl (lv_at hl 0 rfl) ?_
              refine va_get (D := (dC, dI)) (ci := 0) (v := .int u.2.2.2.2.2.2.2.2.2) (C := RX3) (T := TX3) (N := 10) hx hb hts inX3 hown hK hP 0 rfl rfl 9 (by decide) (hts _ qw_68) (fun _ h9 => h9) rfl dX3_wanted_71 ?_
              refine lv_i2l (v := u.2.2.2.2.2.2.2.2.2.toInt64) hx hb dX3_wanted_74 rfl ?_
              have hF : f_X3_wanted u p0 = u.2.2.2.2.2.2.2.2.2.toInt64 := by unfold f_X3_wanted; rw [if_neg c1, if_neg c2, if_neg c3, if_neg c4, if_neg c5, if_pos c6]
              exact W.lret (v := u.2.2.2.2.2.2.2.2.2.toInt64) hx hb hr (fun t ht hW => ⟨by rw [hF], ht⟩) (fun _ h => by cases h) dX3_wanted_75
            · refine lv_tableOut (tgt := 76) hx hb dX3_wanted_12 (by have q0 := lv_neT (k := (0 : Int32)) (a := 0) c2 (by decide); have q1 := lv_neT (k := (1 : Int32)) (a := 1) c3 (by decide); have q2 := lv_neT (k := (2 : Int32)) (a := 2) c4 (by decide); have q3 := lv_neT (k := (3 : Int32)) (a := 3) c5 (by decide); have q4 := lv_neT (k := (4 : Int32)) (a := 4) c6 (by decide); omega) (by decide) ?_
              refine lv_ldc2 (v := (-1 : Int64)) hx hb hown (hts _ qw_69) dX3_wanted_76 ?_
              have hF : f_X3_wanted u p0 = (-1 : Int64) := by unfold f_X3_wanted; rw [if_neg c1, if_neg c2, if_neg c3, if_neg c4, if_neg c5, if_neg c6]
              exact W.lret (v := (-1 : Int64)) hx hb hr (fun t ht hW => ⟨by rw [hF], ht⟩) (fun _ h => by cases h) dX3_wanted_79
  · refine lv_ldc2 (v := (-1 : Int64)) hx hb hown (hts _ qw_69) dX3_wanted_7 ?_
    have hF : f_X3_wanted u p0 = (-1 : Int64) := by unfold f_X3_wanted; rw [if_pos c1]
    exact W.lret (v := (-1 : Int64)) hx hb hr (fun t ht hW => ⟨by rw [hF], ht⟩) (fun _ h => by cases h) dX3_wanted_10
theorem held_in (u : ScT) (r : Int32) (h : vp_in r 32) : f_X3_held u r = u.1 r.toNatClampNeg := by
  unfold f_X3_held
  rw [if_neg (reg_in r h)]
