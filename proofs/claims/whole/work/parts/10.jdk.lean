def f_J0_toUnsignedLong (p0 : Int32) : Int64 :=
  (p0.toInt64 &&& (4294967295 : Int64))
set_option maxHeartbeats 4000000 in
set_option maxRecDepth 100000 in
theorem mt_J0_toUnsignedLong (l : Launch) (p0 : Int32) : Met l yJ0_toUnsignedLong wsJ0_toUnsignedLong ({ frames := 0, cells := 0, slots := 0, locals := 0 }) (fun v _ => v = ([.int p0] : List Value).toArray) (k2_QcV (.long (f_J0_toUnsignedLong p0))) 0 0 (fun _ => False) := by
  refine va_MetF (cc := cJ0_toUnsignedLong) (maxL := 1) (ret := (some .long)) (by decide +kernel) rfl ?_
  intro p e s m args below meth c s₁ B hml hv
  subst hv
  have hx := B.exec
  have hb := B.bytes
  have hr := B.returns
  have hts0 := atoms_spec (ws := wsJ0_toUnsignedLong) B.pre
  have hts := fun (w : Cond) (h : w ∈ lw_G) => hts0 w (List.mem_cons_of_mem _ h)
  have hown : s.vm.findClass RJ0 = some m.cls := findClass_of_methodNamed B.named
  have hlocks := B.notSynchronized
  have hl := lv_entry ([.int p0]) (n := 1) (Nat.le_of_ble_eq_true rfl)
  rw [lg_entry_eq]
  generalize (lg_sl ([.int p0]) ++ List.replicate (1 - (lg_sl ([.int p0])).length) Slot.unset).toArray = ls at hl ⊢
  have hl : lv_has ls 1 [(0, .int p0)] := hl
  refine lv_iload_n hx hb dJ0_toUnsignedLong_0 rfl (lv_at hl 0 rfl) ?_
  refine lv_i2l (v := p0.toInt64) hx hb dJ0_toUnsignedLong_1 rfl ?_
  refine lv_ldc2 (v := (4294967295 : Int64)) hx hb hown (hts _ qw_0) dJ0_toUnsignedLong_2 ?_
  refine lv_land hx hb dJ0_toUnsignedLong_5 ?_
  have hF : f_J0_toUnsignedLong p0 = (p0.toInt64 &&& (4294967295 : Int64)) := rfl
  exact W.lret (v := (p0.toInt64 &&& (4294967295 : Int64))) hx hb hr (fun t ht hW => ⟨by rw [hF], ht⟩) (fun _ h => by cases h) dJ0_toUnsignedLong_6

def f_J1_compare (p0 : Int64) (p1 : Int64) : Int32 :=
  if p1 ≤ p0 then
    if p0 = p1 then
      (0 : Int32)
    else
      (1 : Int32)
  else
    (-1 : Int32)
set_option maxHeartbeats 4000000 in
set_option maxRecDepth 100000 in
theorem mt_J1_compare (l : Launch) (p0 : Int64) (p1 : Int64) : Met l yJ1_compare wsJ1_compare ({ frames := 0, cells := 0, slots := 0, locals := 0 }) (fun v _ => v = ([.long p0, .long p1] : List Value).toArray) (k2_QcV (.int (f_J1_compare p0 p1))) 0 0 (fun _ => False) := by
  refine va_MetF (cc := cJ1_compare) (maxL := 4) (ret := (some .int)) (by decide +kernel) rfl ?_
  intro p e s m args below meth c s₁ B hml hv
  subst hv
  have hx := B.exec
  have hb := B.bytes
  have hr := B.returns
  have hts0 := atoms_spec (ws := wsJ1_compare) B.pre
  have hts := fun (w : Cond) (h : w ∈ lw_G) => hts0 w (List.mem_cons_of_mem _ h)
  have hown : s.vm.findClass RJ1 = some m.cls := findClass_of_methodNamed B.named
  have hlocks := B.notSynchronized
  have hl := lv_entry ([.long p0, .long p1]) (n := 4) (Nat.le_of_ble_eq_true rfl)
  rw [lg_entry_eq]
  generalize (lg_sl ([.long p0, .long p1]) ++ List.replicate (4 - (lg_sl ([.long p0, .long p1])).length) Slot.unset).toArray = ls at hl ⊢
  have hl : lv_has ls 4 [(0, .long p0), (2, .long p1)] := hl
  refine lv_lload_n hx hb dJ1_compare_0 rfl (lv_at hl 0 rfl) ?_
  refine lv_lload_n hx hb dJ1_compare_1 rfl (lv_at hl 1 rfl) ?_
  refine W.lcmp hx hb dJ1_compare_2 ?_
  refine lv_if_ge (tgt := 10) hx hb dJ1_compare_3 (by decide) (fun c1 => ?_) (fun c1 => ?_)
  · have c1 := (lg_cmp_ge p0 p1).mp c1
    refine lv_lload_n hx hb dJ1_compare_10 rfl (lv_at hl 0 rfl) ?_
    refine lv_lload_n hx hb dJ1_compare_11 rfl (lv_at hl 1 rfl) ?_
    refine W.lcmp hx hb dJ1_compare_12 ?_
    refine lv_if_ne (tgt := 20) hx hb dJ1_compare_13 (by decide) (fun c2 => ?_) (fun c2 => ?_)
    · have c2 := mt (lg_cmp_eq p0 p1).mpr c2
      refine lv_iconst (v := (1 : Int32)) hx hb dJ1_compare_20 (by decide) ?_
      have hF : f_J1_compare p0 p1 = (1 : Int32) := by unfold f_J1_compare; rw [if_pos c1, if_neg c2]
      exact W.iret (v := (1 : Int32)) hx hb hr (fun t ht hW => ⟨by rw [hF], ht⟩) (fun _ h => by cases h) dJ1_compare_21
    · have c2 := (lg_cmp_eq p0 p1).mp c2
      refine lv_iconst (v := (0 : Int32)) hx hb dJ1_compare_16 (by decide) ?_
      refine lv_goto (tgt := 21) hx hb dJ1_compare_17 (by decide) ?_
      have hF : f_J1_compare p0 p1 = (0 : Int32) := by unfold f_J1_compare; rw [if_pos c1, if_pos c2]
      exact W.iret (v := (0 : Int32)) hx hb hr (fun t ht hW => ⟨by rw [hF], ht⟩) (fun _ h => by cases h) dJ1_compare_21
  · have c1 := mt (lg_cmp_ge p0 p1).mpr c1
    refine lv_iconst (v := (-1 : Int32)) hx hb dJ1_compare_6 (by decide) ?_
    refine lv_goto (tgt := 21) hx hb dJ1_compare_7 (by decide) ?_
    have hF : f_J1_compare p0 p1 = (-1 : Int32) := by unfold f_J1_compare; rw [if_neg c1]
    exact W.iret (v := (-1 : Int32)) hx hb hr (fun t ht hW => ⟨by rw [hF], ht⟩) (fun _ h => by cases h) dJ1_compare_21

def f_J1_compareUnsigned (p0 : Int64) (p1 : Int64) : Int32 :=
  (f_J1_compare (p0 + (-9223372036854775808 : Int64)) (p1 + (-9223372036854775808 : Int64)))
set_option maxHeartbeats 4000000 in
set_option maxRecDepth 100000 in
theorem mt_J1_compareUnsigned (l : Launch) (p0 : Int64) (p1 : Int64) : Met l yJ1_compareUnsigned wsJ1_compareUnsigned ({ frames := 1, cells := 0, slots := 0, locals := 23 }) (fun v _ => v = ([.long p0, .long p1] : List Value).toArray) (k2_QcV (.int (f_J1_compareUnsigned p0 p1))) 0 0 (fun _ => False) := by
  refine va_MetF (cc := cJ1_compareUnsigned) (maxL := 4) (ret := (some .int)) (by decide +kernel) rfl ?_
  intro p e s m args below meth c s₁ B hml hv
  subst hv
  have hx := B.exec
  have hb := B.bytes
  have hr := B.returns
  have hts0 := atoms_spec (ws := wsJ1_compareUnsigned) B.pre
  have hts := fun (w : Cond) (h : w ∈ lw_G) => hts0 w (List.mem_cons_of_mem _ h)
  have hown : s.vm.findClass RJ1 = some m.cls := findClass_of_methodNamed B.named
  have hlocks := B.notSynchronized
  have hl := lv_entry ([.long p0, .long p1]) (n := 4) (Nat.le_of_ble_eq_true rfl)
  rw [lg_entry_eq]
  generalize (lg_sl ([.long p0, .long p1]) ++ List.replicate (4 - (lg_sl ([.long p0, .long p1])).length) Slot.unset).toArray = ls at hl ⊢
  have hl : lv_has ls 4 [(0, .long p0), (2, .long p1)] := hl
  refine lv_lload_n hx hb dJ1_compareUnsigned_0 rfl (lv_at hl 0 rfl) ?_
  refine lv_ldc2 (v := (-9223372036854775808 : Int64)) hx hb hown (hts _ qw_1) dJ1_compareUnsigned_1 ?_
  refine lv_ladd hx hb dJ1_compareUnsigned_4 ?_
  refine lv_lload_n hx hb dJ1_compareUnsigned_5 rfl (lv_at hl 1 rfl) ?_
  refine lv_ldc2 (v := (-9223372036854775808 : Int64)) hx hb hown (hts _ qw_1) dJ1_compareUnsigned_6 ?_
  refine lv_ladd hx hb dJ1_compareUnsigned_9 ?_
  refine W.callV (W.runS (As := [.long (p0 + (-9223372036854775808 : Int64)), .long (p1 + (-9223372036854775808 : Int64))]) (rest := []) ⟨hx, hb, hml, hown, hts⟩ (mt_J1_compare l (p0 + (-9223372036854775808 : Int64)) (p1 + (-9223372036854775808 : Int64))) (va_cwS 2 hts gJ1_302_J1_compare rfl rfl rfl (by decide +kernel) ⟨Nat.le_of_ble_eq_true rfl, Nat.le_of_ble_eq_true rfl⟩) preEq rfl rfl hl.1 rfl (lv_room (Nat.le_of_ble_eq_true rfl)) dJ1_compareUnsigned_10 ⟨Nat.le_of_ble_eq_true rfl, Nat.le_of_ble_eq_true rfl⟩) ?_
  refine W.eq (g2 := F0 m 13 ls [.int (f_J1_compare (p0 + (-9223372036854775808 : Int64)) (p1 + (-9223372036854775808 : Int64)))]) rfl ?_
  have hF : f_J1_compareUnsigned p0 p1 = (f_J1_compare (p0 + (-9223372036854775808 : Int64)) (p1 + (-9223372036854775808 : Int64))) := rfl
  exact W.iret (v := (f_J1_compare (p0 + (-9223372036854775808 : Int64)) (p1 + (-9223372036854775808 : Int64)))) hx hb hr (fun t ht hW => ⟨by rw [hF], ht⟩) (fun _ h => by cases h) dJ1_compareUnsigned_13

def f_J2_multiplyHigh (p0 : Int64) (p1 : Int64) : Int64 :=
  ((((j_lshr p0 (32 : Int32)) * (j_lshr p1 (32 : Int32))) + (j_lshr (((j_lshr p0 (32 : Int32)) * (p1 &&& (4294967295 : Int64))) + (j_lushr ((p0 &&& (4294967295 : Int64)) * (p1 &&& (4294967295 : Int64))) (32 : Int32))) (32 : Int32))) + (j_lshr (((((j_lshr p0 (32 : Int32)) * (p1 &&& (4294967295 : Int64))) + (j_lushr ((p0 &&& (4294967295 : Int64)) * (p1 &&& (4294967295 : Int64))) (32 : Int32))) &&& (4294967295 : Int64)) + ((p0 &&& (4294967295 : Int64)) * (j_lshr p1 (32 : Int32)))) (32 : Int32)))
set_option maxHeartbeats 4000000 in
set_option maxRecDepth 100000 in
theorem mt_J2_multiplyHigh (l : Launch) (p0 : Int64) (p1 : Int64) : Met l yJ2_multiplyHigh wsJ2_multiplyHigh ({ frames := 0, cells := 0, slots := 0, locals := 0 }) (fun v _ => v = ([.long p0, .long p1] : List Value).toArray) (k2_QcV (.long (f_J2_multiplyHigh p0 p1))) 0 0 (fun _ => False) := by
  refine va_MetF (cc := cJ2_multiplyHigh) (maxL := 20) (ret := (some .long)) (by decide +kernel) rfl ?_
  intro p e s m args below meth c s₁ B hml hv
  subst hv
  have hx := B.exec
  have hb := B.bytes
  have hr := B.returns
  have hts0 := atoms_spec (ws := wsJ2_multiplyHigh) B.pre
  have hts := fun (w : Cond) (h : w ∈ lw_G) => hts0 w (List.mem_cons_of_mem _ h)
  have hown : s.vm.findClass RJ2 = some m.cls := findClass_of_methodNamed B.named
  have hlocks := B.notSynchronized
  have hl := lv_entry ([.long p0, .long p1]) (n := 20) (Nat.le_of_ble_eq_true rfl)
  rw [lg_entry_eq]
  generalize (lg_sl ([.long p0, .long p1]) ++ List.replicate (20 - (lg_sl ([.long p0, .long p1])).length) Slot.unset).toArray = ls at hl ⊢
  have hl : lv_has ls 20 [(0, .long p0), (2, .long p1)] := hl
  refine lv_lload_n hx hb dJ2_multiplyHigh_0 rfl (lv_at hl 0 rfl) ?_
  refine lv_bipush (v := (32 : Int32)) hx hb dJ2_multiplyHigh_1 (by decide) ?_
  refine lv_lshr (v := (j_lshr p0 (32 : Int32))) hx hb dJ2_multiplyHigh_3 rfl ?_
  refine lv_lstore (lv' := [(4, .long (j_lshr p0 (32 : Int32))), (0, .long p0), (2, .long p1)]) hx hb dJ2_multiplyHigh_4 hl (by decide) rfl (fun ls hl => ?_)
  refine lv_lload_n hx hb dJ2_multiplyHigh_6 rfl (lv_at hl 1 rfl) ?_
  refine lv_ldc2 (v := (4294967295 : Int64)) hx hb hown (hts _ qw_6) dJ2_multiplyHigh_7 ?_
  refine lv_land hx hb dJ2_multiplyHigh_10 ?_
  refine lv_lstore (lv' := [(6, .long (p0 &&& (4294967295 : Int64))), (4, .long (j_lshr p0 (32 : Int32))), (0, .long p0), (2, .long p1)]) hx hb dJ2_multiplyHigh_11 hl (by decide) rfl (fun ls hl => ?_)
  refine lv_lload_n hx hb dJ2_multiplyHigh_13 rfl (lv_at hl 3 rfl) ?_
  refine lv_bipush (v := (32 : Int32)) hx hb dJ2_multiplyHigh_14 (by decide) ?_
  refine lv_lshr (v := (j_lshr p1 (32 : Int32))) hx hb dJ2_multiplyHigh_16 rfl ?_
  refine lv_lstore (lv' := [(8, .long (j_lshr p1 (32 : Int32))), (6, .long (p0 &&& (4294967295 : Int64))), (4, .long (j_lshr p0 (32 : Int32))), (0, .long p0), (2, .long p1)]) hx hb dJ2_multiplyHigh_17 hl (by decide) rfl (fun ls hl => ?_)
  refine lv_lload_n hx hb dJ2_multiplyHigh_19 rfl (lv_at hl 4 rfl) ?_
  refine lv_ldc2 (v := (4294967295 : Int64)) hx hb hown (hts _ qw_6) dJ2_multiplyHigh_20 ?_
  refine lv_land hx hb dJ2_multiplyHigh_23 ?_
  refine lv_lstore (lv' := [(10, .long (p1 &&& (4294967295 : Int64))), (8, .long (j_lshr p1 (32 : Int32))), (6, .long (p0 &&& (4294967295 : Int64))), (4, .long (j_lshr p0 (32 : Int32))), (0, .long p0), (2, .long p1)]) hx hb dJ2_multiplyHigh_24 hl (by decide) rfl (fun ls hl => ?_)
  refine lv_lload hx hb dJ2_multiplyHigh_26 (lv_at hl 2 rfl) ?_
  refine lv_lload hx hb dJ2_multiplyHigh_28 (lv_at hl 0 rfl) ?_
  refine lv_lmul hx hb dJ2_multiplyHigh_30 ?_
  refine lv_lstore (lv' := [(12, .long ((p0 &&& (4294967295 : Int64)) * (p1 &&& (4294967295 : Int64)))), (10, .long (p1 &&& (4294967295 : Int64))), (8, .long (j_lshr p1 (32 : Int32))), (6, .long (p0 &&& (4294967295 : Int64))), (4, .long (j_lshr p0 (32 : Int32))), (0, .long p0), (2, .long p1)]) hx hb dJ2_multiplyHigh_31 hl (by decide) rfl (fun ls hl => ?_)
  refine lv_lload hx hb dJ2_multiplyHigh_33 (lv_at hl 4 rfl) ?_
  refine lv_lload hx hb dJ2_multiplyHigh_35 (lv_at hl 1 rfl) ?_
  refine lv_lmul hx hb dJ2_multiplyHigh_37 ?_
  refine lv_lload hx hb dJ2_multiplyHigh_38 (lv_at hl 0 rfl) ?_
  refine lv_bipush (v := (32 : Int32)) hx hb dJ2_multiplyHigh_40 (by decide) ?_
  refine lv_lushr (v := (j_lushr ((p0 &&& (4294967295 : Int64)) * (p1 &&& (4294967295 : Int64))) (32 : Int32))) hx hb dJ2_multiplyHigh_42 rfl ?_
  refine lv_ladd hx hb dJ2_multiplyHigh_43 ?_
  refine lv_lstore (lv' := [(14, .long (((j_lshr p0 (32 : Int32)) * (p1 &&& (4294967295 : Int64))) + (j_lushr ((p0 &&& (4294967295 : Int64)) * (p1 &&& (4294967295 : Int64))) (32 : Int32)))), (12, .long ((p0 &&& (4294967295 : Int64)) * (p1 &&& (4294967295 : Int64)))), (10, .long (p1 &&& (4294967295 : Int64))), (8, .long (j_lshr p1 (32 : Int32))), (6, .long (p0 &&& (4294967295 : Int64))), (4, .long (j_lshr p0 (32 : Int32))), (0, .long p0), (2, .long p1)]) hx hb dJ2_multiplyHigh_44 hl (by decide) rfl (fun ls hl => ?_)
  refine lv_lload hx hb dJ2_multiplyHigh_46 (lv_at hl 0 rfl) ?_
  refine lv_ldc2 (v := (4294967295 : Int64)) hx hb hown (hts _ qw_6) dJ2_multiplyHigh_48 ?_
  refine lv_land hx hb dJ2_multiplyHigh_51 ?_
  refine lv_lstore (lv' := [(16, .long ((((j_lshr p0 (32 : Int32)) * (p1 &&& (4294967295 : Int64))) + (j_lushr ((p0 &&& (4294967295 : Int64)) * (p1 &&& (4294967295 : Int64))) (32 : Int32))) &&& (4294967295 : Int64))), (14, .long (((j_lshr p0 (32 : Int32)) * (p1 &&& (4294967295 : Int64))) + (j_lushr ((p0 &&& (4294967295 : Int64)) * (p1 &&& (4294967295 : Int64))) (32 : Int32)))), (12, .long ((p0 &&& (4294967295 : Int64)) * (p1 &&& (4294967295 : Int64)))), (10, .long (p1 &&& (4294967295 : Int64))), (8, .long (j_lshr p1 (32 : Int32))), (6, .long (p0 &&& (4294967295 : Int64))), (4, .long (j_lshr p0 (32 : Int32))), (0, .long p0), (2, .long p1)]) hx hb dJ2_multiplyHigh_52 hl (by decide) rfl (fun ls hl => ?_)
  refine lv_lload hx hb dJ2_multiplyHigh_54 (lv_at hl 1 rfl) ?_
  refine lv_bipush (v := (32 : Int32)) hx hb dJ2_multiplyHigh_56 (by decide) ?_
  refine lv_lshr (v := (j_lshr (((j_lshr p0 (32 : Int32)) * (p1 &&& (4294967295 : Int64))) + (j_lushr ((p0 &&& (4294967295 : Int64)) * (p1 &&& (4294967295 : Int64))) (32 : Int32))) (32 : Int32))) hx hb dJ2_multiplyHigh_58 rfl ?_
  refine lv_lstore (lv' := [(18, .long (j_lshr (((j_lshr p0 (32 : Int32)) * (p1 &&& (4294967295 : Int64))) + (j_lushr ((p0 &&& (4294967295 : Int64)) * (p1 &&& (4294967295 : Int64))) (32 : Int32))) (32 : Int32))), (16, .long ((((j_lshr p0 (32 : Int32)) * (p1 &&& (4294967295 : Int64))) + (j_lushr ((p0 &&& (4294967295 : Int64)) * (p1 &&& (4294967295 : Int64))) (32 : Int32))) &&& (4294967295 : Int64))), (14, .long (((j_lshr p0 (32 : Int32)) * (p1 &&& (4294967295 : Int64))) + (j_lushr ((p0 &&& (4294967295 : Int64)) * (p1 &&& (4294967295 : Int64))) (32 : Int32)))), (12, .long ((p0 &&& (4294967295 : Int64)) * (p1 &&& (4294967295 : Int64)))), (10, .long (p1 &&& (4294967295 : Int64))), (8, .long (j_lshr p1 (32 : Int32))), (6, .long (p0 &&& (4294967295 : Int64))), (4, .long (j_lshr p0 (32 : Int32))), (0, .long p0), (2, .long p1)]) hx hb dJ2_multiplyHigh_59 hl (by decide) rfl (fun ls hl => ?_)
  refine lv_lload hx hb dJ2_multiplyHigh_61 (lv_at hl 1 rfl) ?_
  refine lv_lload hx hb dJ2_multiplyHigh_63 (lv_at hl 6 rfl) ?_
  refine lv_lload hx hb dJ2_multiplyHigh_65 (lv_at hl 5 rfl) ?_
  refine lv_lmul hx hb dJ2_multiplyHigh_67 ?_
  refine lv_ladd hx hb dJ2_multiplyHigh_68 ?_
  refine lv_lstore (lv' := [(16, .long (((((j_lshr p0 (32 : Int32)) * (p1 &&& (4294967295 : Int64))) + (j_lushr ((p0 &&& (4294967295 : Int64)) * (p1 &&& (4294967295 : Int64))) (32 : Int32))) &&& (4294967295 : Int64)) + ((p0 &&& (4294967295 : Int64)) * (j_lshr p1 (32 : Int32))))), (18, .long (j_lshr (((j_lshr p0 (32 : Int32)) * (p1 &&& (4294967295 : Int64))) + (j_lushr ((p0 &&& (4294967295 : Int64)) * (p1 &&& (4294967295 : Int64))) (32 : Int32))) (32 : Int32))), (14, .long (((j_lshr p0 (32 : Int32)) * (p1 &&& (4294967295 : Int64))) + (j_lushr ((p0 &&& (4294967295 : Int64)) * (p1 &&& (4294967295 : Int64))) (32 : Int32)))), (12, .long ((p0 &&& (4294967295 : Int64)) * (p1 &&& (4294967295 : Int64)))), (10, .long (p1 &&& (4294967295 : Int64))), (8, .long (j_lshr p1 (32 : Int32))), (6, .long (p0 &&& (4294967295 : Int64))), (4, .long (j_lshr p0 (32 : Int32))), (0, .long p0), (2, .long p1)]) hx hb dJ2_multiplyHigh_69 hl (by decide) rfl (fun ls hl => ?_)
  refine lv_lload hx hb dJ2_multiplyHigh_71 (lv_at hl 7 rfl) ?_
  refine lv_lload hx hb dJ2_multiplyHigh_73 (lv_at hl 5 rfl) ?_
  refine lv_lmul hx hb dJ2_multiplyHigh_75 ?_
  refine lv_lload hx hb dJ2_multiplyHigh_76 (lv_at hl 1 rfl) ?_
  refine lv_ladd hx hb dJ2_multiplyHigh_78 ?_
  refine lv_lload hx hb dJ2_multiplyHigh_79 (lv_at hl 0 rfl) ?_
  refine lv_bipush (v := (32 : Int32)) hx hb dJ2_multiplyHigh_81 (by decide) ?_
  refine lv_lshr (v := (j_lshr (((((j_lshr p0 (32 : Int32)) * (p1 &&& (4294967295 : Int64))) + (j_lushr ((p0 &&& (4294967295 : Int64)) * (p1 &&& (4294967295 : Int64))) (32 : Int32))) &&& (4294967295 : Int64)) + ((p0 &&& (4294967295 : Int64)) * (j_lshr p1 (32 : Int32)))) (32 : Int32))) hx hb dJ2_multiplyHigh_83 rfl ?_
  refine lv_ladd hx hb dJ2_multiplyHigh_84 ?_
  have hF : f_J2_multiplyHigh p0 p1 = ((((j_lshr p0 (32 : Int32)) * (j_lshr p1 (32 : Int32))) + (j_lshr (((j_lshr p0 (32 : Int32)) * (p1 &&& (4294967295 : Int64))) + (j_lushr ((p0 &&& (4294967295 : Int64)) * (p1 &&& (4294967295 : Int64))) (32 : Int32))) (32 : Int32))) + (j_lshr (((((j_lshr p0 (32 : Int32)) * (p1 &&& (4294967295 : Int64))) + (j_lushr ((p0 &&& (4294967295 : Int64)) * (p1 &&& (4294967295 : Int64))) (32 : Int32))) &&& (4294967295 : Int64)) + ((p0 &&& (4294967295 : Int64)) * (j_lshr p1 (32 : Int32)))) (32 : Int32))) := rfl
  exact W.lret (v := ((((j_lshr p0 (32 : Int32)) * (j_lshr p1 (32 : Int32))) + (j_lshr (((j_lshr p0 (32 : Int32)) * (p1 &&& (4294967295 : Int64))) + (j_lushr ((p0 &&& (4294967295 : Int64)) * (p1 &&& (4294967295 : Int64))) (32 : Int32))) (32 : Int32))) + (j_lshr (((((j_lshr p0 (32 : Int32)) * (p1 &&& (4294967295 : Int64))) + (j_lushr ((p0 &&& (4294967295 : Int64)) * (p1 &&& (4294967295 : Int64))) (32 : Int32))) &&& (4294967295 : Int64)) + ((p0 &&& (4294967295 : Int64)) * (j_lshr p1 (32 : Int32)))) (32 : Int32)))) hx hb hr (fun t ht hW => ⟨by rw [hF], ht⟩) (fun _ h => by cases h) dJ2_multiplyHigh_85
theorem ul_nz (y : Int32) (h : ¬ y = 0) : ¬ f_J0_toUnsignedLong y = 0 := by
  intro e
  apply h
  unfold f_J0_toUnsignedLong at e
  have e1 := congrArg Int64.toInt32 e
  rw [Int64.toInt32_and, Int32.toInt32_toInt64, show (4294967295 : Int64).toInt32 = -1 from by decide, Int32.and_neg_one] at e1
  exact e1
def f_J0_divideUnsigned (p0 : Int32) (p1 : Int32) : Int32 :=
  ((f_J0_toUnsignedLong p0) / (f_J0_toUnsignedLong p1)).toInt32
set_option maxHeartbeats 4000000 in
set_option maxRecDepth 100000 in
theorem mt_J0_divideUnsigned (l : Launch) (p0 : Int32) (p1 : Int32) (hz1 : ¬ p1 = (0 : Int32)) : Met l yJ0_divideUnsigned wsJ0_divideUnsigned ({ frames := 1, cells := 0, slots := 0, locals := 20 }) (fun v _ => v = ([.int p0, .int p1] : List Value).toArray) (k2_QcV (.int (f_J0_divideUnsigned p0 p1))) 0 0 (fun _ => False) := by
  refine va_MetF (cc := cJ0_divideUnsigned) (maxL := 2) (ret := (some .int)) (by decide +kernel) rfl ?_
  intro p e s m args below meth c s₁ B hml hv
  subst hv
  have hx := B.exec
  have hb := B.bytes
  have hr := B.returns
  have hts0 := atoms_spec (ws := wsJ0_divideUnsigned) B.pre
  have hts := fun (w : Cond) (h : w ∈ lw_G) => hts0 w (List.mem_cons_of_mem _ h)
  have hown : s.vm.findClass RJ0 = some m.cls := findClass_of_methodNamed B.named
  have hlocks := B.notSynchronized
  have hl := lv_entry ([.int p0, .int p1]) (n := 2) (Nat.le_of_ble_eq_true rfl)
  rw [lg_entry_eq]
  generalize (lg_sl ([.int p0, .int p1]) ++ List.replicate (2 - (lg_sl ([.int p0, .int p1])).length) Slot.unset).toArray = ls at hl ⊢
  have hl : lv_has ls 2 [(0, .int p0), (1, .int p1)] := hl
  refine lv_iload_n hx hb dJ0_divideUnsigned_0 rfl (lv_at hl 0 rfl) ?_
  refine W.callV (W.runS (As := [.int p0]) (rest := []) ⟨hx, hb, hml, hown, hts⟩ (mt_J0_toUnsignedLong l p0) (va_cwS 1 hts gJ0_38_J0_toUnsignedLong rfl rfl rfl (by decide +kernel) ⟨Nat.le_of_ble_eq_true rfl, Nat.le_of_ble_eq_true rfl⟩) preEq rfl rfl hl.1 rfl (lv_room (Nat.le_of_ble_eq_true rfl)) dJ0_divideUnsigned_1 ⟨Nat.le_of_ble_eq_true rfl, Nat.le_of_ble_eq_true rfl⟩) ?_
  refine W.eq (g2 := F0 m 4 ls [.long (f_J0_toUnsignedLong p0)]) rfl ?_
  refine lv_iload_n hx hb dJ0_divideUnsigned_4 rfl (lv_at hl 1 rfl) ?_
  refine W.callV (W.runS (As := [.int p1]) (rest := [.long (f_J0_toUnsignedLong p0)]) ⟨hx, hb, hml, hown, hts⟩ (mt_J0_toUnsignedLong l p1) (va_cwS 1 hts gJ0_38_J0_toUnsignedLong rfl rfl rfl (by decide +kernel) ⟨Nat.le_of_ble_eq_true rfl, Nat.le_of_ble_eq_true rfl⟩) preEq rfl rfl hl.1 rfl (lv_room (Nat.le_of_ble_eq_true rfl)) dJ0_divideUnsigned_5 ⟨Nat.le_of_ble_eq_true rfl, Nat.le_of_ble_eq_true rfl⟩) ?_
  refine W.eq (g2 := F0 m 8 ls [.long (f_J0_toUnsignedLong p1), .long (f_J0_toUnsignedLong p0)]) rfl ?_
  refine lv_ldiv hx hb dJ0_divideUnsigned_8 (ul_nz p1 hz1) ?_
  refine lv_l2i (v := ((f_J0_toUnsignedLong p0) / (f_J0_toUnsignedLong p1)).toInt32) hx hb dJ0_divideUnsigned_9 rfl ?_
  have hF : f_J0_divideUnsigned p0 p1 = ((f_J0_toUnsignedLong p0) / (f_J0_toUnsignedLong p1)).toInt32 := rfl
  exact W.iret (v := ((f_J0_toUnsignedLong p0) / (f_J0_toUnsignedLong p1)).toInt32) hx hb hr (fun t ht hW => ⟨by rw [hF], ht⟩) (fun _ h => by cases h) dJ0_divideUnsigned_10

def f_J0_remainderUnsigned (p0 : Int32) (p1 : Int32) : Int32 :=
  ((f_J0_toUnsignedLong p0) - (f_J0_toUnsignedLong p0) / (f_J0_toUnsignedLong p1) * (f_J0_toUnsignedLong p1)).toInt32
set_option maxHeartbeats 4000000 in
set_option maxRecDepth 100000 in
theorem mt_J0_remainderUnsigned (l : Launch) (p0 : Int32) (p1 : Int32) (hz1 : ¬ p1 = (0 : Int32)) : Met l yJ0_remainderUnsigned wsJ0_remainderUnsigned ({ frames := 1, cells := 0, slots := 0, locals := 20 }) (fun v _ => v = ([.int p0, .int p1] : List Value).toArray) (k2_QcV (.int (f_J0_remainderUnsigned p0 p1))) 0 0 (fun _ => False) := by
  refine va_MetF (cc := cJ0_remainderUnsigned) (maxL := 2) (ret := (some .int)) (by decide +kernel) rfl ?_
  intro p e s m args below meth c s₁ B hml hv
  subst hv
  have hx := B.exec
  have hb := B.bytes
  have hr := B.returns
  have hts0 := atoms_spec (ws := wsJ0_remainderUnsigned) B.pre
  have hts := fun (w : Cond) (h : w ∈ lw_G) => hts0 w (List.mem_cons_of_mem _ h)
  have hown : s.vm.findClass RJ0 = some m.cls := findClass_of_methodNamed B.named
  have hlocks := B.notSynchronized
  have hl := lv_entry ([.int p0, .int p1]) (n := 2) (Nat.le_of_ble_eq_true rfl)
  rw [lg_entry_eq]
  generalize (lg_sl ([.int p0, .int p1]) ++ List.replicate (2 - (lg_sl ([.int p0, .int p1])).length) Slot.unset).toArray = ls at hl ⊢
  have hl : lv_has ls 2 [(0, .int p0), (1, .int p1)] := hl
  refine lv_iload_n hx hb dJ0_remainderUnsigned_0 rfl (lv_at hl 0 rfl) ?_
  refine W.callV (W.runS (As := [.int p0]) (rest := []) ⟨hx, hb, hml, hown, hts⟩ (mt_J0_toUnsignedLong l p0) (va_cwS 1 hts gJ0_38_J0_toUnsignedLong rfl rfl rfl (by decide +kernel) ⟨Nat.le_of_ble_eq_true rfl, Nat.le_of_ble_eq_true rfl⟩) preEq rfl rfl hl.1 rfl (lv_room (Nat.le_of_ble_eq_true rfl)) dJ0_remainderUnsigned_1 ⟨Nat.le_of_ble_eq_true rfl, Nat.le_of_ble_eq_true rfl⟩) ?_
  refine W.eq (g2 := F0 m 4 ls [.long (f_J0_toUnsignedLong p0)]) rfl ?_
  refine lv_iload_n hx hb dJ0_remainderUnsigned_4 rfl (lv_at hl 1 rfl) ?_
  refine W.callV (W.runS (As := [.int p1]) (rest := [.long (f_J0_toUnsignedLong p0)]) ⟨hx, hb, hml, hown, hts⟩ (mt_J0_toUnsignedLong l p1) (va_cwS 1 hts gJ0_38_J0_toUnsignedLong rfl rfl rfl (by decide +kernel) ⟨Nat.le_of_ble_eq_true rfl, Nat.le_of_ble_eq_true rfl⟩) preEq rfl rfl hl.1 rfl (lv_room (Nat.le_of_ble_eq_true rfl)) dJ0_remainderUnsigned_5 ⟨Nat.le_of_ble_eq_true rfl, Nat.le_of_ble_eq_true rfl⟩) ?_
  refine W.eq (g2 := F0 m 8 ls [.long (f_J0_toUnsignedLong p1), .long (f_J0_toUnsignedLong p0)]) rfl ?_
  refine lv_lrem hx hb dJ0_remainderUnsigned_8 (ul_nz p1 hz1) ?_
  refine lv_l2i (v := ((f_J0_toUnsignedLong p0) - (f_J0_toUnsignedLong p0) / (f_J0_toUnsignedLong p1) * (f_J0_toUnsignedLong p1)).toInt32) hx hb dJ0_remainderUnsigned_9 rfl ?_
  have hF : f_J0_remainderUnsigned p0 p1 = ((f_J0_toUnsignedLong p0) - (f_J0_toUnsignedLong p0) / (f_J0_toUnsignedLong p1) * (f_J0_toUnsignedLong p1)).toInt32 := rfl
  exact W.iret (v := ((f_J0_toUnsignedLong p0) - (f_J0_toUnsignedLong p0) / (f_J0_toUnsignedLong p1) * (f_J0_toUnsignedLong p1)).toInt32) hx hb hr (fun t ht hW => ⟨by rw [hF], ht⟩) (fun _ h => by cases h) dJ0_remainderUnsigned_10
