def f_X0_plain (p0 : Int32) (p1 : Int32) (p2 : Int32) : Int32 :=
  if p0 = (0 : Int32) then
    (p1 + p2)
  else if p0 = (1 : Int32) then
    (p1 <<< ((p2 &&& (31 : Int32)) &&& 31))
  else
    (j_iushr p1 (p2 &&& (31 : Int32)))
set_option maxHeartbeats 4000000 in
set_option maxRecDepth 100000 in
theorem mt_X0_plain (l : Launch) (p0 : Int32) (p1 : Int32) (p2 : Int32) : Met l yX0_plain wsX0_plain ({ frames := 0, cells := 0, slots := 0, locals := 0 }) (fun v _ => v = ([.int p0, .int p1, .int p2] : List Value).toArray) (k2_QcV (.int (f_X0_plain p0 p1 p2))) 0 0 (fun _ => False) := by
  refine Met.ofW (cc := cX0_plain) (maxL := 3) (ret := (some .int)) (by decide) rfl ?_
  intro p e s m args below meth c s₁ B hml hv
  subst hv
  have hx := B.exec
  have hb := B.bytes
  have hr := B.returns
  have hts0 := atoms_spec (ws := wsX0_plain) B.pre
  have hts := fun (w : Cond) (h : w ∈ lw_G) => hts0 w (List.mem_cons_of_mem _ h)
  have hown : s.vm.findClass RX0 = some m.cls := findClass_of_methodNamed B.named
  have hlocks := B.notSynchronized
  have hl := lv_entry ([.int p0, .int p1, .int p2]) (n := 3) (Nat.le_of_ble_eq_true rfl)
  rw [lg_entry_eq]
  generalize (lg_sl ([.int p0, .int p1, .int p2]) ++ List.replicate (3 - (lg_sl ([.int p0, .int p1, .int p2])).length) Slot.unset).toArray = ls at hl ⊢
  have hl : lv_has ls 3 [(0, .int p0), (1, .int p1), (2, .int p2)] := hl
  refine lv_iload_n hx hb dX0_plain_0 rfl (lv_at hl 0 rfl) ?_
  by_cases c1 : p0 = (0 : Int32)
  · refine lv_lookup (tgt := 28) (off := 27) hx hb dX0_plain_1 (by decide +kernel) (by rw [c1]; decide +kernel) (by decide) ?_
    refine lv_iload_n hx hb dX0_plain_28 rfl (lv_at hl 1 rfl) ?_
    refine lv_iload_n hx hb dX0_plain_29 rfl (lv_at hl 2 rfl) ?_
    refine lv_iadd hx hb dX0_plain_30 ?_
    have hF : f_X0_plain p0 p1 p2 = (p1 + p2) := by unfold f_X0_plain; rw [if_pos c1]
    exact W.iret (v := (p1 + p2)) hx hb hr (fun t ht hW => ⟨by rw [hF], ht⟩) (fun _ h => by cases h) dX0_plain_31
  · by_cases c2 : p0 = (1 : Int32)
    · refine lv_lookup (tgt := 32) (off := 31) hx hb dX0_plain_1 (by decide +kernel) (by rw [c2]; decide +kernel) (by decide) ?_
      refine lv_iload_n hx hb dX0_plain_32 rfl (lv_at hl 1 rfl) ?_
      refine lv_iload_n hx hb dX0_plain_33 rfl (lv_at hl 2 rfl) ?_
      refine lv_bipush (v := (31 : Int32)) hx hb dX0_plain_34 (by decide) ?_
      refine lv_iand hx hb dX0_plain_36 ?_
      refine lv_ishl hx hb dX0_plain_37 ?_
      have hF : f_X0_plain p0 p1 p2 = (p1 <<< ((p2 &&& (31 : Int32)) &&& 31)) := by unfold f_X0_plain; rw [if_neg c1, if_pos c2]
      exact W.iret (v := (p1 <<< ((p2 &&& (31 : Int32)) &&& 31))) hx hb hr (fun t ht hW => ⟨by rw [hF], ht⟩) (fun _ h => by cases h) dX0_plain_38
    · refine lv_lookup (tgt := 39) (off := 38) hx hb dX0_plain_1 (by decide +kernel) (by show Op.lookupswitch.offset [((0 : Int), (27 : Int)), ((1 : Int), (31 : Int))] 38 _ = _; rw [lv_osw c1 (k := (0 : Int32)) (by decide), lv_osw c2 (k := (1 : Int32)) (by decide)]; rfl) (by decide) ?_
      refine lv_iload_n hx hb dX0_plain_39 rfl (lv_at hl 1 rfl) ?_
      refine lv_iload_n hx hb dX0_plain_40 rfl (lv_at hl 2 rfl) ?_
      refine lv_bipush (v := (31 : Int32)) hx hb dX0_plain_41 (by decide) ?_
      refine lv_iand hx hb dX0_plain_43 ?_
      refine lv_iushr (v := (j_iushr p1 (p2 &&& (31 : Int32)))) hx hb dX0_plain_44 rfl ?_
      have hF : f_X0_plain p0 p1 p2 = (j_iushr p1 (p2 &&& (31 : Int32))) := by unfold f_X0_plain; rw [if_neg c1, if_neg c2]
      exact W.iret (v := (j_iushr p1 (p2 &&& (31 : Int32)))) hx hb hr (fun t ht hW => ⟨by rw [hF], ht⟩) (fun _ h => by cases h) dX0_plain_45

def f_X0_shiftRightWithSign (p0 : Int32) (p1 : Int32) : Int32 :=
  (p0 >>> ((p1 &&& (31 : Int32)) &&& 31))
set_option maxHeartbeats 4000000 in
set_option maxRecDepth 100000 in
theorem mt_X0_shiftRightWithSign (l : Launch) (p0 : Int32) (p1 : Int32) : Met l yX0_shiftRightWithSign wsX0_shiftRightWithSign ({ frames := 0, cells := 0, slots := 0, locals := 0 }) (fun v _ => v = ([.int p0, .int p1] : List Value).toArray) (k2_QcV (.int (f_X0_shiftRightWithSign p0 p1))) 0 0 (fun _ => False) := by
  refine Met.ofW (cc := cX0_shiftRightWithSign) (maxL := 2) (ret := (some .int)) (by decide) rfl ?_
  intro p e s m args below meth c s₁ B hml hv
  subst hv
  have hx := B.exec
  have hb := B.bytes
  have hr := B.returns
  have hts0 := atoms_spec (ws := wsX0_shiftRightWithSign) B.pre
  have hts := fun (w : Cond) (h : w ∈ lw_G) => hts0 w (List.mem_cons_of_mem _ h)
  have hown : s.vm.findClass RX0 = some m.cls := findClass_of_methodNamed B.named
  have hlocks := B.notSynchronized
  have hl := lv_entry ([.int p0, .int p1]) (n := 2) (Nat.le_of_ble_eq_true rfl)
  rw [lg_entry_eq]
  generalize (lg_sl ([.int p0, .int p1]) ++ List.replicate (2 - (lg_sl ([.int p0, .int p1])).length) Slot.unset).toArray = ls at hl ⊢
  have hl : lv_has ls 2 [(0, .int p0), (1, .int p1)] := hl
  refine lv_iload_n hx hb dX0_shiftRightWithSign_0 rfl (lv_at hl 0 rfl) ?_
  refine lv_iload_n hx hb dX0_shiftRightWithSign_1 rfl (lv_at hl 1 rfl) ?_
  refine lv_bipush (v := (31 : Int32)) hx hb dX0_shiftRightWithSign_2 (by decide) ?_
  refine lv_iand hx hb dX0_shiftRightWithSign_4 ?_
  refine lv_ishr hx hb dX0_shiftRightWithSign_5 ?_
  have hF : f_X0_shiftRightWithSign p0 p1 = (p0 >>> ((p1 &&& (31 : Int32)) &&& 31)) := rfl
  exact W.iret (v := (p0 >>> ((p1 &&& (31 : Int32)) &&& 31))) hx hb hr (fun t ht hW => ⟨by rw [hF], ht⟩) (fun _ h => by cases h) dX0_shiftRightWithSign_6

def f_X0_product (p0 : Int32) (p1 : Int32) (p2 : Int32) : Int32 :=
  if p0 = (0 : Int32) then
    (p1 * p2)
  else if p0 = (1 : Int32) then
    if p2 = 0 then
      p1
    else
      (f_J0_remainderUnsigned p1 p2)
  else if p0 = (2 : Int32) then
    if p2 = 0 then
      p1
    else
      (f_J0_remainderUnsigned p1 p2)
  else if p0 = (3 : Int32) then
    if p2 = 0 then
      p1
    else
      (f_J0_remainderUnsigned p1 p2)
  else if p0 = (4 : Int32) then
    if p2 = 0 then
      (-1 : Int32)
    else
      (p1 / p2)
  else if p0 = (5 : Int32) then
    if p2 = 0 then
      (-1 : Int32)
    else
      (f_J0_divideUnsigned p1 p2)
  else if p0 = (6 : Int32) then
    if p2 = 0 then
      p1
    else
      (p1 - p1 / p2 * p2)
  else if p2 = 0 then
    p1
  else
    (f_J0_remainderUnsigned p1 p2)
set_option maxHeartbeats 4000000 in
set_option maxRecDepth 100000 in
theorem mt_X0_product (l : Launch) (p0 : Int32) (p1 : Int32) (p2 : Int32) : Met l yX0_product wsX0_product ({ frames := 2, cells := 0, slots := 0, locals := 41 }) (fun v _ => v = ([.int p0, .int p1, .int p2] : List Value).toArray) (k2_QcV (.int (f_X0_product p0 p1 p2))) 0 0 (fun _ => False) := by
  refine Met.ofW (cc := cX0_product) (maxL := 3) (ret := (some .int)) (by decide) rfl ?_
  intro p e s m args below meth c s₁ B hml hv
  subst hv
  have hx := B.exec
  have hb := B.bytes
  have hr := B.returns
  have hts0 := atoms_spec (ws := wsX0_product) B.pre
  have hts := fun (w : Cond) (h : w ∈ lw_G) => hts0 w (List.mem_cons_of_mem _ h)
  have hown : s.vm.findClass RX0 = some m.cls := findClass_of_methodNamed B.named
  have hlocks := B.notSynchronized
  have hl := lv_entry ([.int p0, .int p1, .int p2]) (n := 3) (Nat.le_of_ble_eq_true rfl)
  rw [lg_entry_eq]
  generalize (lg_sl ([.int p0, .int p1, .int p2]) ++ List.replicate (3 - (lg_sl ([.int p0, .int p1, .int p2])).length) Slot.unset).toArray = ls at hl ⊢
  have hl : lv_has ls 3 [(0, .int p0), (1, .int p1), (2, .int p2)] := hl
  refine lv_iload_n hx hb dX0_product_0 rfl (lv_at hl 0 rfl) ?_
  by_cases c1 : p0 = (0 : Int32)
  · refine lv_tableIn (tgt := 44) (off := 43) hx hb dX0_product_1 (by rw [c1]; decide) (by rw [c1]; decide) (by rw [c1]; decide +kernel) (by decide) ?_
    refine lv_iload_n hx hb dX0_product_44 rfl (lv_at hl 1 rfl) ?_
    refine lv_iload_n hx hb dX0_product_45 rfl (lv_at hl 2 rfl) ?_
    refine lv_imul hx hb dX0_product_46 ?_
    have hF : f_X0_product p0 p1 p2 = (p1 * p2) := by unfold f_X0_product; rw [if_pos c1]
    exact W.iret (v := (p1 * p2)) hx hb hr (fun t ht hW => ⟨by rw [hF], ht⟩) (fun _ h => by cases h) dX0_product_47
  · by_cases c2 : p0 = (1 : Int32)
    · refine lv_tableIn (tgt := 86) (off := 85) hx hb dX0_product_1 (by rw [c2]; decide) (by rw [c2]; decide) (by rw [c2]; decide +kernel) (by decide) ?_
      refine lv_iload_n hx hb dX0_product_86 rfl (lv_at hl 2 rfl) ?_
      refine lv_if_ne (tgt := 94) hx hb dX0_product_87 (by decide) (fun c3 => ?_) (fun c3 => ?_)
      · refine lv_iload_n hx hb dX0_product_94 rfl (lv_at hl 1 rfl) ?_
        refine lv_iload_n hx hb dX0_product_95 rfl (lv_at hl 2 rfl) ?_
        refine W.callV (W.runS (As := [.int p1, .int p2]) (rest := []) ⟨hx, hb, hml, hown, hts⟩ (mt_J0_remainderUnsigned l p1 p2 c3) (va_cwS 2 hts gX0_13_J0_remainderUnsigned rfl rfl rfl (by decide +kernel) ⟨Nat.le_of_ble_eq_true rfl, Nat.le_of_ble_eq_true rfl⟩) preEq rfl rfl hl.1 rfl (lv_room (Nat.le_of_ble_eq_true rfl)) dX0_product_96 ⟨Nat.le_of_ble_eq_true rfl, Nat.le_of_ble_eq_true rfl⟩) ?_
        refine W.eq (g2 := F0 m 99 ls [.int (f_J0_remainderUnsigned p1 p2)]) rfl ?_
        have hF : f_X0_product p0 p1 p2 = (f_J0_remainderUnsigned p1 p2) := by unfold f_X0_product; rw [if_neg c1, if_pos c2, if_neg c3]
        exact W.iret (v := (f_J0_remainderUnsigned p1 p2)) hx hb hr (fun t ht hW => ⟨by rw [hF], ht⟩) (fun _ h => by cases h) dX0_product_99
      · refine lv_iload_n hx hb dX0_product_90 rfl (lv_at hl 1 rfl) ?_
        refine lv_goto (tgt := 99) hx hb dX0_product_91 (by decide) ?_
        have hF : f_X0_product p0 p1 p2 = p1 := by unfold f_X0_product; rw [if_neg c1, if_pos c2, if_pos c3]
        exact W.iret (v := p1) hx hb hr (fun t ht hW => ⟨by rw [hF], ht⟩) (fun _ h => by cases h) dX0_product_99
    · by_cases c4 : p0 = (2 : Int32)
      · refine lv_tableIn (tgt := 86) (off := 85) hx hb dX0_product_1 (by rw [c4]; decide) (by rw [c4]; decide) (by rw [c4]; decide +kernel) (by decide) ?_
        refine lv_iload_n hx hb dX0_product_86 rfl (lv_at hl 2 rfl) ?_
        refine lv_if_ne (tgt := 94) hx hb dX0_product_87 (by decide) (fun c5 => ?_) (fun c5 => ?_)
        · refine lv_iload_n hx hb dX0_product_94 rfl (lv_at hl 1 rfl) ?_
          refine lv_iload_n hx hb dX0_product_95 rfl (lv_at hl 2 rfl) ?_
          refine W.callV (W.runS (As := [.int p1, .int p2]) (rest := []) ⟨hx, hb, hml, hown, hts⟩ (mt_J0_remainderUnsigned l p1 p2 c5) (va_cwS 2 hts gX0_13_J0_remainderUnsigned rfl rfl rfl (by decide +kernel) ⟨Nat.le_of_ble_eq_true rfl, Nat.le_of_ble_eq_true rfl⟩) preEq rfl rfl hl.1 rfl (lv_room (Nat.le_of_ble_eq_true rfl)) dX0_product_96 ⟨Nat.le_of_ble_eq_true rfl, Nat.le_of_ble_eq_true rfl⟩) ?_
          refine W.eq (g2 := F0 m 99 ls [.int (f_J0_remainderUnsigned p1 p2)]) rfl ?_
          have hF : f_X0_product p0 p1 p2 = (f_J0_remainderUnsigned p1 p2) := by unfold f_X0_product; rw [if_neg c1, if_neg c2, if_pos c4, if_neg c5]
          exact W.iret (v := (f_J0_remainderUnsigned p1 p2)) hx hb hr (fun t ht hW => ⟨by rw [hF], ht⟩) (fun _ h => by cases h) dX0_product_99
        · refine lv_iload_n hx hb dX0_product_90 rfl (lv_at hl 1 rfl) ?_
          refine lv_goto (tgt := 99) hx hb dX0_product_91 (by decide) ?_
          have hF : f_X0_product p0 p1 p2 = p1 := by unfold f_X0_product; rw [if_neg c1, if_neg c2, if_pos c4, if_pos c5]
          exact W.iret (v := p1) hx hb hr (fun t ht hW => ⟨by rw [hF], ht⟩) (fun _ h => by cases h) dX0_product_99
      · by_cases c6 : p0 = (3 : Int32)
        · refine lv_tableIn (tgt := 86) (off := 85) hx hb dX0_product_1 (by rw [c6]; decide) (by rw [c6]; decide) (by rw [c6]; decide +kernel) (by decide) ?_
          refine lv_iload_n hx hb dX0_product_86 rfl (lv_at hl 2 rfl) ?_
          refine lv_if_ne (tgt := 94) hx hb dX0_product_87 (by decide) (fun c7 => ?_) (fun c7 => ?_)
          · refine lv_iload_n hx hb dX0_product_94 rfl (lv_at hl 1 rfl) ?_
            refine lv_iload_n hx hb dX0_product_95 rfl (lv_at hl 2 rfl) ?_
            refine W.callV (W.runS (As := [.int p1, .int p2]) (rest := []) ⟨hx, hb, hml, hown, hts⟩ (mt_J0_remainderUnsigned l p1 p2 c7) (va_cwS 2 hts gX0_13_J0_remainderUnsigned rfl rfl rfl (by decide +kernel) ⟨Nat.le_of_ble_eq_true rfl, Nat.le_of_ble_eq_true rfl⟩) preEq rfl rfl hl.1 rfl (lv_room (Nat.le_of_ble_eq_true rfl)) dX0_product_96 ⟨Nat.le_of_ble_eq_true rfl, Nat.le_of_ble_eq_true rfl⟩) ?_
            refine W.eq (g2 := F0 m 99 ls [.int (f_J0_remainderUnsigned p1 p2)]) rfl ?_
            have hF : f_X0_product p0 p1 p2 = (f_J0_remainderUnsigned p1 p2) := by unfold f_X0_product; rw [if_neg c1, if_neg c2, if_neg c4, if_pos c6, if_neg c7]
            exact W.iret (v := (f_J0_remainderUnsigned p1 p2)) hx hb hr (fun t ht hW => ⟨by rw [hF], ht⟩) (fun _ h => by cases h) dX0_product_99
          · refine lv_iload_n hx hb dX0_product_90 rfl (lv_at hl 1 rfl) ?_
            refine lv_goto (tgt := 99) hx hb dX0_product_91 (by decide) ?_
            have hF : f_X0_product p0 p1 p2 = p1 := by unfold f_X0_product; rw [if_neg c1, if_neg c2, if_neg c4, if_pos c6, if_pos c7]
            exact W.iret (v := p1) hx hb hr (fun t ht hW => ⟨by rw [hF], ht⟩) (fun _ h => by cases h) dX0_product_99
        · by_cases c8 : p0 = (4 : Int32)
          · refine lv_tableIn (tgt := 48) (off := 47) hx hb dX0_product_1 (by rw [c8]; decide) (by rw [c8]; decide) (by rw [c8]; decide +kernel) (by decide) ?_
            refine lv_iload_n hx hb dX0_product_48 rfl (lv_at hl 2 rfl) ?_
            refine lv_if_ne (tgt := 56) hx hb dX0_product_49 (by decide) (fun c9 => ?_) (fun c9 => ?_)
            · refine lv_iload_n hx hb dX0_product_56 rfl (lv_at hl 1 rfl) ?_
              refine lv_iload_n hx hb dX0_product_57 rfl (lv_at hl 2 rfl) ?_
              refine lv_idiv hx hb dX0_product_58 c9 ?_
              have hF : f_X0_product p0 p1 p2 = (p1 / p2) := by unfold f_X0_product; rw [if_neg c1, if_neg c2, if_neg c4, if_neg c6, if_pos c8, if_neg c9]
              exact W.iret (v := (p1 / p2)) hx hb hr (fun t ht hW => ⟨by rw [hF], ht⟩) (fun _ h => by cases h) dX0_product_59
            · refine lv_iconst (v := (-1 : Int32)) hx hb dX0_product_52 (by decide) ?_
              refine lv_goto (tgt := 59) hx hb dX0_product_53 (by decide) ?_
              have hF : f_X0_product p0 p1 p2 = (-1 : Int32) := by unfold f_X0_product; rw [if_neg c1, if_neg c2, if_neg c4, if_neg c6, if_pos c8, if_pos c9]
              exact W.iret (v := (-1 : Int32)) hx hb hr (fun t ht hW => ⟨by rw [hF], ht⟩) (fun _ h => by cases h) dX0_product_59
          · by_cases c10 : p0 = (5 : Int32)
            · refine lv_tableIn (tgt := 60) (off := 59) hx hb dX0_product_1 (by rw [c10]; decide) (by rw [c10]; decide) (by rw [c10]; decide +kernel) (by decide) ?_
              refine lv_iload_n hx hb dX0_product_60 rfl (lv_at hl 2 rfl) ?_
              refine lv_if_ne (tgt := 68) hx hb dX0_product_61 (by decide) (fun c11 => ?_) (fun c11 => ?_)
              · refine lv_iload_n hx hb dX0_product_68 rfl (lv_at hl 1 rfl) ?_
                refine lv_iload_n hx hb dX0_product_69 rfl (lv_at hl 2 rfl) ?_
                refine W.callV (W.runS (As := [.int p1, .int p2]) (rest := []) ⟨hx, hb, hml, hown, hts⟩ (mt_J0_divideUnsigned l p1 p2 c11) (va_cwS 2 hts gX0_7_J0_divideUnsigned rfl rfl rfl (by decide +kernel) ⟨Nat.le_of_ble_eq_true rfl, Nat.le_of_ble_eq_true rfl⟩) preEq rfl rfl hl.1 rfl (lv_room (Nat.le_of_ble_eq_true rfl)) dX0_product_70 ⟨Nat.le_of_ble_eq_true rfl, Nat.le_of_ble_eq_true rfl⟩) ?_
                refine W.eq (g2 := F0 m 73 ls [.int (f_J0_divideUnsigned p1 p2)]) rfl ?_
                have hF : f_X0_product p0 p1 p2 = (f_J0_divideUnsigned p1 p2) := by unfold f_X0_product; rw [if_neg c1, if_neg c2, if_neg c4, if_neg c6, if_neg c8, if_pos c10, if_neg c11]
                exact W.iret (v := (f_J0_divideUnsigned p1 p2)) hx hb hr (fun t ht hW => ⟨by rw [hF], ht⟩) (fun _ h => by cases h) dX0_product_73
              · refine lv_iconst (v := (-1 : Int32)) hx hb dX0_product_64 (by decide) ?_
                refine lv_goto (tgt := 73) hx hb dX0_product_65 (by decide) ?_
                have hF : f_X0_product p0 p1 p2 = (-1 : Int32) := by unfold f_X0_product; rw [if_neg c1, if_neg c2, if_neg c4, if_neg c6, if_neg c8, if_pos c10, if_pos c11]
                exact W.iret (v := (-1 : Int32)) hx hb hr (fun t ht hW => ⟨by rw [hF], ht⟩) (fun _ h => by cases h) dX0_product_73
            · by_cases c12 : p0 = (6 : Int32)
              · refine lv_tableIn (tgt := 74) (off := 73) hx hb dX0_product_1 (by rw [c12]; decide) (by rw [c12]; decide) (by rw [c12]; decide +kernel) (by decide) ?_
                refine lv_iload_n hx hb dX0_product_74 rfl (lv_at hl 2 rfl) ?_
                refine lv_if_ne (tgt := 82) hx hb dX0_product_75 (by decide) (fun c13 => ?_) (fun c13 => ?_)
                · refine lv_iload_n hx hb dX0_product_82 rfl (lv_at hl 1 rfl) ?_
                  refine lv_iload_n hx hb dX0_product_83 rfl (lv_at hl 2 rfl) ?_
                  refine lv_irem hx hb dX0_product_84 c13 ?_
                  have hF : f_X0_product p0 p1 p2 = (p1 - p1 / p2 * p2) := by unfold f_X0_product; rw [if_neg c1, if_neg c2, if_neg c4, if_neg c6, if_neg c8, if_neg c10, if_pos c12, if_neg c13]
                  exact W.iret (v := (p1 - p1 / p2 * p2)) hx hb hr (fun t ht hW => ⟨by rw [hF], ht⟩) (fun _ h => by cases h) dX0_product_85
                · refine lv_iload_n hx hb dX0_product_78 rfl (lv_at hl 1 rfl) ?_
                  refine lv_goto (tgt := 85) hx hb dX0_product_79 (by decide) ?_
                  have hF : f_X0_product p0 p1 p2 = p1 := by unfold f_X0_product; rw [if_neg c1, if_neg c2, if_neg c4, if_neg c6, if_neg c8, if_neg c10, if_pos c12, if_pos c13]
                  exact W.iret (v := p1) hx hb hr (fun t ht hW => ⟨by rw [hF], ht⟩) (fun _ h => by cases h) dX0_product_85
              · refine lv_tableOut (tgt := 86) hx hb dX0_product_1 (by have q0 := lv_neT (k := (0 : Int32)) (a := 0) c1 (by decide); have q1 := lv_neT (k := (1 : Int32)) (a := 1) c2 (by decide); have q2 := lv_neT (k := (2 : Int32)) (a := 2) c4 (by decide); have q3 := lv_neT (k := (3 : Int32)) (a := 3) c6 (by decide); have q4 := lv_neT (k := (4 : Int32)) (a := 4) c8 (by decide); have q5 := lv_neT (k := (5 : Int32)) (a := 5) c10 (by decide); have q6 := lv_neT (k := (6 : Int32)) (a := 6) c12 (by decide); omega) (by decide) ?_
                refine lv_iload_n hx hb dX0_product_86 rfl (lv_at hl 2 rfl) ?_
                refine lv_if_ne (tgt := 94) hx hb dX0_product_87 (by decide) (fun c14 => ?_) (fun c14 => ?_)
                · refine lv_iload_n hx hb dX0_product_94 rfl (lv_at hl 1 rfl) ?_
                  refine lv_iload_n hx hb dX0_product_95 rfl (lv_at hl 2 rfl) ?_
                  refine W.callV (W.runS (As := [.int p1, .int p2]) (rest := []) ⟨hx, hb, hml, hown, hts⟩ (mt_J0_remainderUnsigned l p1 p2 c14) (va_cwS 2 hts gX0_13_J0_remainderUnsigned rfl rfl rfl (by decide +kernel) ⟨Nat.le_of_ble_eq_true rfl, Nat.le_of_ble_eq_true rfl⟩) preEq rfl rfl hl.1 rfl (lv_room (Nat.le_of_ble_eq_true rfl)) dX0_product_96 ⟨Nat.le_of_ble_eq_true rfl, Nat.le_of_ble_eq_true rfl⟩) ?_
                  refine W.eq (g2 := F0 m 99 ls [.int (f_J0_remainderUnsigned p1 p2)]) rfl ?_
                  have hF : f_X0_product p0 p1 p2 = (f_J0_remainderUnsigned p1 p2) := by unfold f_X0_product; rw [if_neg c1, if_neg c2, if_neg c4, if_neg c6, if_neg c8, if_neg c10, if_neg c12, if_neg c14]
                  exact W.iret (v := (f_J0_remainderUnsigned p1 p2)) hx hb hr (fun t ht hW => ⟨by rw [hF], ht⟩) (fun _ h => by cases h) dX0_product_99
                · refine lv_iload_n hx hb dX0_product_90 rfl (lv_at hl 1 rfl) ?_
                  refine lv_goto (tgt := 99) hx hb dX0_product_91 (by decide) ?_
                  have hF : f_X0_product p0 p1 p2 = p1 := by unfold f_X0_product; rw [if_neg c1, if_neg c2, if_neg c4, if_neg c6, if_neg c8, if_neg c10, if_neg c12, if_pos c14]
                  exact W.iret (v := p1) hx hb hr (fun t ht hW => ⟨by rw [hF], ht⟩) (fun _ h => by cases h) dX0_product_99

def f_X3_isRegister (p0 : Int32) : Int32 :=
  if p0 < 0 then
    (0 : Int32)
  else if (32 : Int32) ≤ p0 then
    (0 : Int32)
  else
    (1 : Int32)
theorem nb_f_X3_isRegister (p0 : Int32) : narrow .boolean (.int (f_X3_isRegister p0)) = .int (f_X3_isRegister p0) := by
  unfold f_X3_isRegister; (repeat' split) <;> first | with_reducible exact nb_f_X1_isBelow _ _ | with_reducible exact nb_f_X1_compares _ _ _ | rfl
set_option maxHeartbeats 4000000 in
set_option maxRecDepth 100000 in
theorem mt_X3_isRegister (l : Launch) (p0 : Int32) : Met l yX3_isRegister wsX3_isRegister ({ frames := 0, cells := 0, slots := 0, locals := 0 }) (fun v _ => v = ([.int p0] : List Value).toArray) (k2_QcV (.int (f_X3_isRegister p0))) 0 0 (fun _ => False) := by
  refine Met.ofW (cc := cX3_isRegister) (maxL := 1) (ret := (some .boolean)) (by decide) rfl ?_
  intro p e s m args below meth c s₁ B hml hv
  subst hv
  have hx := B.exec
  have hb := B.bytes
  have hr := B.returns
  have hts0 := atoms_spec (ws := wsX3_isRegister) B.pre
  have hts := fun (w : Cond) (h : w ∈ lw_G) => hts0 w (List.mem_cons_of_mem _ h)
  have hown : s.vm.findClass RX3 = some m.cls := findClass_of_methodNamed B.named
  have hlocks := B.notSynchronized
  have hl := lv_entry ([.int p0]) (n := 1) (Nat.le_of_ble_eq_true rfl)
  rw [lg_entry_eq]
  generalize (lg_sl ([.int p0]) ++ List.replicate (1 - (lg_sl ([.int p0])).length) Slot.unset).toArray = ls at hl ⊢
  have hl : lv_has ls 1 [(0, .int p0)] := hl
  refine lv_iload_n hx hb dX3_isRegister_0 rfl (lv_at hl 0 rfl) ?_
  refine lv_if_lt (tgt := 14) hx hb dX3_isRegister_1 (by decide) (fun c1 => ?_) (fun c1 => ?_)
  · refine lv_iconst (v := (0 : Int32)) hx hb dX3_isRegister_14 (by decide) ?_
    have hF : f_X3_isRegister p0 = (0 : Int32) := by unfold f_X3_isRegister; rw [if_pos c1]
    exact W.zret (v := (0 : Int32)) hx hb hr rfl (fun t ht hW => ⟨by rw [hF], ht⟩) (fun _ h => by cases h) dX3_isRegister_15
  · refine lv_iload_n hx hb dX3_isRegister_4 rfl (lv_at hl 0 rfl) ?_
    refine lv_bipush (v := (32 : Int32)) hx hb dX3_isRegister_5 (by decide) ?_
    refine lv_icmp_ge (tgt := 14) hx hb dX3_isRegister_7 (by decide) (fun c2 => ?_) (fun c2 => ?_)
    · refine lv_iconst (v := (0 : Int32)) hx hb dX3_isRegister_14 (by decide) ?_
      have hF : f_X3_isRegister p0 = (0 : Int32) := by unfold f_X3_isRegister; rw [if_neg c1, if_pos c2]
      exact W.zret (v := (0 : Int32)) hx hb hr rfl (fun t ht hW => ⟨by rw [hF], ht⟩) (fun _ h => by cases h) dX3_isRegister_15
    · refine lv_iconst (v := (1 : Int32)) hx hb dX3_isRegister_10 (by decide) ?_
      refine lv_goto (tgt := 15) hx hb dX3_isRegister_11 (by decide) ?_
      have hF : f_X3_isRegister p0 = (1 : Int32) := by unfold f_X3_isRegister; rw [if_neg c1, if_neg c2]
      exact W.zret (v := (1 : Int32)) hx hb hr rfl (fun t ht hW => ⟨by rw [hF], ht⟩) (fun _ h => by cases h) dX3_isRegister_15

def f_X3_isFourOrEightBytes (p0 : Int32) : Int32 :=
  if p0 = (2 : Int32) then
    (1 : Int32)
  else if p0 = (3 : Int32) then
    (1 : Int32)
  else
    (0 : Int32)
theorem nb_f_X3_isFourOrEightBytes (p0 : Int32) : narrow .boolean (.int (f_X3_isFourOrEightBytes p0)) = .int (f_X3_isFourOrEightBytes p0) := by
  unfold f_X3_isFourOrEightBytes; (repeat' split) <;> first | with_reducible exact nb_f_X1_isBelow _ _ | with_reducible exact nb_f_X1_compares _ _ _ | with_reducible exact nb_f_X3_isRegister _ | rfl
set_option maxHeartbeats 4000000 in
set_option maxRecDepth 100000 in
theorem mt_X3_isFourOrEightBytes (l : Launch) (p0 : Int32) : Met l yX3_isFourOrEightBytes wsX3_isFourOrEightBytes ({ frames := 0, cells := 0, slots := 0, locals := 0 }) (fun v _ => v = ([.int p0] : List Value).toArray) (k2_QcV (.int (f_X3_isFourOrEightBytes p0))) 0 0 (fun _ => False) := by
  refine Met.ofW (cc := cX3_isFourOrEightBytes) (maxL := 1) (ret := (some .boolean)) (by decide) rfl ?_
  intro p e s m args below meth c s₁ B hml hv
  subst hv
  have hx := B.exec
  have hb := B.bytes
  have hr := B.returns
  have hts0 := atoms_spec (ws := wsX3_isFourOrEightBytes) B.pre
  have hts := fun (w : Cond) (h : w ∈ lw_G) => hts0 w (List.mem_cons_of_mem _ h)
  have hown : s.vm.findClass RX3 = some m.cls := findClass_of_methodNamed B.named
  have hlocks := B.notSynchronized
  have hl := lv_entry ([.int p0]) (n := 1) (Nat.le_of_ble_eq_true rfl)
  rw [lg_entry_eq]
  generalize (lg_sl ([.int p0]) ++ List.replicate (1 - (lg_sl ([.int p0])).length) Slot.unset).toArray = ls at hl ⊢
  have hl : lv_has ls 1 [(0, .int p0)] := hl
  refine lv_iload_n hx hb dX3_isFourOrEightBytes_0 rfl (lv_at hl 0 rfl) ?_
  refine lv_iconst (v := (2 : Int32)) hx hb dX3_isFourOrEightBytes_1 (by decide) ?_
  refine lv_icmp_eq (tgt := 10) hx hb dX3_isFourOrEightBytes_2 (by decide) (fun c1 => ?_) (fun c1 => ?_)
  · refine lv_iconst (v := (1 : Int32)) hx hb dX3_isFourOrEightBytes_10 (by decide) ?_
    refine lv_goto (tgt := 15) hx hb dX3_isFourOrEightBytes_11 (by decide) ?_
    have hF : f_X3_isFourOrEightBytes p0 = (1 : Int32) := by unfold f_X3_isFourOrEightBytes; rw [if_pos c1]
    exact W.zret (v := (1 : Int32)) hx hb hr rfl (fun t ht hW => ⟨by rw [hF], ht⟩) (fun _ h => by cases h) dX3_isFourOrEightBytes_15
  · refine lv_iload_n hx hb dX3_isFourOrEightBytes_5 rfl (lv_at hl 0 rfl) ?_
    refine lv_iconst (v := (3 : Int32)) hx hb dX3_isFourOrEightBytes_6 (by decide) ?_
    refine lv_icmp_ne (tgt := 14) hx hb dX3_isFourOrEightBytes_7 (by decide) (fun c2 => ?_) (fun c2 => ?_)
    · refine lv_iconst (v := (0 : Int32)) hx hb dX3_isFourOrEightBytes_14 (by decide) ?_
      have hF : f_X3_isFourOrEightBytes p0 = (0 : Int32) := by unfold f_X3_isFourOrEightBytes; rw [if_neg c1, if_neg c2]
      exact W.zret (v := (0 : Int32)) hx hb hr rfl (fun t ht hW => ⟨by rw [hF], ht⟩) (fun _ h => by cases h) dX3_isFourOrEightBytes_15
    · refine lv_iconst (v := (1 : Int32)) hx hb dX3_isFourOrEightBytes_10 (by decide) ?_
      refine lv_goto (tgt := 15) hx hb dX3_isFourOrEightBytes_11 (by decide) ?_
      have hF : f_X3_isFourOrEightBytes p0 = (1 : Int32) := by unfold f_X3_isFourOrEightBytes; rw [if_neg c1, if_pos c2]
      exact W.zret (v := (1 : Int32)) hx hb hr rfl (fun t ht hW => ⟨by rw [hF], ht⟩) (fun _ h => by cases h) dX3_isFourOrEightBytes_15

def f_X3_isAtomicSort (p0 : Int32) (p1 : Int32) : Int32 :=
  if p0 = (2 : Int32) then
    if p1 = 0 then
      (1 : Int32)
    else
      (0 : Int32)
  else if p0 < (4 : Int32) then
    (1 : Int32)
  else if (p0 - p0 / (4 : Int32) * (4 : Int32)) = 0 then
    (1 : Int32)
  else
    (0 : Int32)
theorem nb_f_X3_isAtomicSort (p0 : Int32) (p1 : Int32) : narrow .boolean (.int (f_X3_isAtomicSort p0 p1)) = .int (f_X3_isAtomicSort p0 p1) := by
  unfold f_X3_isAtomicSort; (repeat' split) <;> first | with_reducible exact nb_f_X1_isBelow _ _ | with_reducible exact nb_f_X1_compares _ _ _ | with_reducible exact nb_f_X3_isRegister _ | with_reducible exact nb_f_X3_isFourOrEightBytes _ | rfl
set_option maxHeartbeats 4000000 in
set_option maxRecDepth 100000 in
theorem mt_X3_isAtomicSort (l : Launch) (p0 : Int32) (p1 : Int32) : Met l yX3_isAtomicSort wsX3_isAtomicSort ({ frames := 0, cells := 0, slots := 0, locals := 0 }) (fun v _ => v = ([.int p0, .int p1] : List Value).toArray) (k2_QcV (.int (f_X3_isAtomicSort p0 p1))) 0 0 (fun _ => False) := by
  refine Met.ofW (cc := cX3_isAtomicSort) (maxL := 2) (ret := (some .boolean)) (by decide) rfl ?_
  intro p e s m args below meth c s₁ B hml hv
  subst hv
  have hx := B.exec
  have hb := B.bytes
  have hr := B.returns
  have hts0 := atoms_spec (ws := wsX3_isAtomicSort) B.pre
  have hts := fun (w : Cond) (h : w ∈ lw_G) => hts0 w (List.mem_cons_of_mem _ h)
  have hown : s.vm.findClass RX3 = some m.cls := findClass_of_methodNamed B.named
  have hlocks := B.notSynchronized
  have hl := lv_entry ([.int p0, .int p1]) (n := 2) (Nat.le_of_ble_eq_true rfl)
  rw [lg_entry_eq]
  generalize (lg_sl ([.int p0, .int p1]) ++ List.replicate (2 - (lg_sl ([.int p0, .int p1])).length) Slot.unset).toArray = ls at hl ⊢
  have hl : lv_has ls 2 [(0, .int p0), (1, .int p1)] := hl
  refine lv_iload_n hx hb dX3_isAtomicSort_0 rfl (lv_at hl 0 rfl) ?_
  refine lv_iconst (v := (2 : Int32)) hx hb dX3_isAtomicSort_1 (by decide) ?_
  refine lv_icmp_ne (tgt := 15) hx hb dX3_isAtomicSort_2 (by decide) (fun c1 => ?_) (fun c1 => ?_)
  · refine lv_iload_n hx hb dX3_isAtomicSort_15 rfl (lv_at hl 0 rfl) ?_
    refine lv_iconst (v := (4 : Int32)) hx hb dX3_isAtomicSort_16 (by decide) ?_
    refine lv_icmp_lt (tgt := 26) hx hb dX3_isAtomicSort_17 (by decide) (fun c2 => ?_) (fun c2 => ?_)
    · refine lv_iconst (v := (1 : Int32)) hx hb dX3_isAtomicSort_26 (by decide) ?_
      refine lv_goto (tgt := 31) hx hb dX3_isAtomicSort_27 (by decide) ?_
      have hF : f_X3_isAtomicSort p0 p1 = (1 : Int32) := by unfold f_X3_isAtomicSort; rw [if_neg c1, if_pos c2]
      exact W.zret (v := (1 : Int32)) hx hb hr rfl (fun t ht hW => ⟨by rw [hF], ht⟩) (fun _ h => by cases h) dX3_isAtomicSort_31
    · refine lv_iload_n hx hb dX3_isAtomicSort_20 rfl (lv_at hl 0 rfl) ?_
      refine lv_iconst (v := (4 : Int32)) hx hb dX3_isAtomicSort_21 (by decide) ?_
      refine lv_irem hx hb dX3_isAtomicSort_22 (by decide) ?_
      refine lv_if_ne (tgt := 30) hx hb dX3_isAtomicSort_23 (by decide) (fun c3 => ?_) (fun c3 => ?_)
      · refine lv_iconst (v := (0 : Int32)) hx hb dX3_isAtomicSort_30 (by decide) ?_
        have hF : f_X3_isAtomicSort p0 p1 = (0 : Int32) := by unfold f_X3_isAtomicSort; rw [if_neg c1, if_neg c2, if_neg c3]
        exact W.zret (v := (0 : Int32)) hx hb hr rfl (fun t ht hW => ⟨by rw [hF], ht⟩) (fun _ h => by cases h) dX3_isAtomicSort_31
      · refine lv_iconst (v := (1 : Int32)) hx hb dX3_isAtomicSort_26 (by decide) ?_
        refine lv_goto (tgt := 31) hx hb dX3_isAtomicSort_27 (by decide) ?_
        have hF : f_X3_isAtomicSort p0 p1 = (1 : Int32) := by unfold f_X3_isAtomicSort; rw [if_neg c1, if_neg c2, if_pos c3]
        exact W.zret (v := (1 : Int32)) hx hb hr rfl (fun t ht hW => ⟨by rw [hF], ht⟩) (fun _ h => by cases h) dX3_isAtomicSort_31
  · refine lv_iload_n hx hb dX3_isAtomicSort_5 rfl (lv_at hl 1 rfl) ?_
    refine lv_if_ne (tgt := 13) hx hb dX3_isAtomicSort_6 (by decide) (fun c4 => ?_) (fun c4 => ?_)
    · refine lv_iconst (v := (0 : Int32)) hx hb dX3_isAtomicSort_13 (by decide) ?_
      have hF : f_X3_isAtomicSort p0 p1 = (0 : Int32) := by unfold f_X3_isAtomicSort; rw [if_pos c1, if_neg c4]
      exact W.zret (v := (0 : Int32)) hx hb hr rfl (fun t ht hW => ⟨by rw [hF], ht⟩) (fun _ h => by cases h) dX3_isAtomicSort_14
    · refine lv_iconst (v := (1 : Int32)) hx hb dX3_isAtomicSort_9 (by decide) ?_
      refine lv_goto (tgt := 14) hx hb dX3_isAtomicSort_10 (by decide) ?_
      have hF : f_X3_isAtomicSort p0 p1 = (1 : Int32) := by unfold f_X3_isAtomicSort; rw [if_pos c1, if_pos c4]
      exact W.zret (v := (1 : Int32)) hx hb hr rfl (fun t ht hW => ⟨by rw [hF], ht⟩) (fun _ h => by cases h) dX3_isAtomicSort_14
