def f_X4_isRegister (p0 : Int32) : Int32 :=
  if p0 < 0 then
    (0 : Int32)
  else if (32 : Int32) ≤ p0 then
    (0 : Int32)
  else
    (1 : Int32)
theorem nb_f_X4_isRegister (p0 : Int32) : narrow .boolean (.int (f_X4_isRegister p0)) = .int (f_X4_isRegister p0) := by
  unfold f_X4_isRegister; (repeat' split) <;> first | with_reducible exact nb_f_X1_isBelow _ _ | with_reducible exact nb_f_X1_compares _ _ _ | with_reducible exact nb_f_X3_isRegister _ | with_reducible exact nb_f_X3_isFourOrEightBytes _ | with_reducible exact nb_f_X3_isAtomicSort _ _ | rfl
set_option maxHeartbeats 4000000 in
set_option maxRecDepth 100000 in
theorem mt_X4_isRegister (l : Launch) (p0 : Int32) : Met l yX4_isRegister wsX4_isRegister ({ frames := 0, cells := 0, slots := 0, locals := 0 }) (fun v _ => v = ([.int p0] : List Value).toArray) (k2_QcV (.int (f_X4_isRegister p0))) 0 0 (fun _ => False) := by
  refine Met.ofW (cc := cX4_isRegister) (maxL := 1) (ret := (some .boolean)) (by decide) rfl ?_
  intro p e s m args below meth c s₁ B hml hv
  subst hv
  have hx := B.exec
  have hb := B.bytes
  have hr := B.returns
  have hts0 := atoms_spec (ws := wsX4_isRegister) B.pre
  have hts := fun (w : Cond) (h : w ∈ lw_G) => hts0 w (List.mem_cons_of_mem _ h)
  have hown : s.vm.findClass RX4 = some m.cls := findClass_of_methodNamed B.named
  have hlocks := B.notSynchronized
  have hl := lv_entry ([.int p0]) (n := 1) (Nat.le_of_ble_eq_true rfl)
  rw [lg_entry_eq]
  generalize (lg_sl ([.int p0]) ++ List.replicate (1 - (lg_sl ([.int p0])).length) Slot.unset).toArray = ls at hl ⊢
  have hl : lv_has ls 1 [(0, .int p0)] := hl
  refine lv_iload_n hx hb dX4_isRegister_0 rfl (lv_at hl 0 rfl) ?_
  refine lv_if_lt (tgt := 14) hx hb dX4_isRegister_1 (by decide) (fun c1 => ?_) (fun c1 => ?_)
  · refine lv_iconst (v := (0 : Int32)) hx hb dX4_isRegister_14 (by decide) ?_
    have hF : f_X4_isRegister p0 = (0 : Int32) := by unfold f_X4_isRegister; rw [if_pos c1]
    exact W.zret (v := (0 : Int32)) hx hb hr rfl (fun t ht hW => ⟨by rw [hF], ht⟩) (fun _ h => by cases h) dX4_isRegister_15
  · refine lv_iload_n hx hb dX4_isRegister_4 rfl (lv_at hl 0 rfl) ?_
    refine lv_bipush (v := (32 : Int32)) hx hb dX4_isRegister_5 (by decide) ?_
    refine lv_icmp_ge (tgt := 14) hx hb dX4_isRegister_7 (by decide) (fun c2 => ?_) (fun c2 => ?_)
    · refine lv_iconst (v := (0 : Int32)) hx hb dX4_isRegister_14 (by decide) ?_
      have hF : f_X4_isRegister p0 = (0 : Int32) := by unfold f_X4_isRegister; rw [if_neg c1, if_pos c2]
      exact W.zret (v := (0 : Int32)) hx hb hr rfl (fun t ht hW => ⟨by rw [hF], ht⟩) (fun _ h => by cases h) dX4_isRegister_15
    · refine lv_iconst (v := (1 : Int32)) hx hb dX4_isRegister_10 (by decide) ?_
      refine lv_goto (tgt := 15) hx hb dX4_isRegister_11 (by decide) ?_
      have hF : f_X4_isRegister p0 = (1 : Int32) := by unfold f_X4_isRegister; rw [if_neg c1, if_neg c2]
      exact W.zret (v := (1 : Int32)) hx hb hr rfl (fun t ht hW => ⟨by rw [hF], ht⟩) (fun _ h => by cases h) dX4_isRegister_15

def f_X4_isLess (p0 : Int64) (p1 : Int64) : Int32 :=
  if (0 : Int64) ≤ p0 then
    if (0 : Int64) ≤ p1 then
      if (0 : Int32) = (0 : Int32) then
        if p1 ≤ p0 then
          (0 : Int32)
        else
          (1 : Int32)
      else if (0 : Int64) ≤ p1 then
        (0 : Int32)
      else
        (1 : Int32)
    else if (0 : Int32) = (1 : Int32) then
      if p1 ≤ p0 then
        (0 : Int32)
      else
        (1 : Int32)
    else if (0 : Int64) ≤ p1 then
      (0 : Int32)
    else
      (1 : Int32)
  else if (0 : Int64) ≤ p1 then
    if (1 : Int32) = (0 : Int32) then
      if p1 ≤ p0 then
        (0 : Int32)
      else
        (1 : Int32)
    else if (0 : Int64) ≤ p1 then
      (0 : Int32)
    else
      (1 : Int32)
  else if (1 : Int32) = (1 : Int32) then
    if p1 ≤ p0 then
      (0 : Int32)
    else
      (1 : Int32)
  else if (0 : Int64) ≤ p1 then
    (0 : Int32)
  else
    (1 : Int32)
theorem nb_f_X4_isLess (p0 : Int64) (p1 : Int64) : narrow .boolean (.int (f_X4_isLess p0 p1)) = .int (f_X4_isLess p0 p1) := by
  unfold f_X4_isLess; (repeat' split) <;> first | with_reducible exact nb_f_X1_isBelow _ _ | with_reducible exact nb_f_X1_compares _ _ _ | with_reducible exact nb_f_X3_isRegister _ | with_reducible exact nb_f_X3_isFourOrEightBytes _ | with_reducible exact nb_f_X3_isAtomicSort _ _ | with_reducible exact nb_f_X4_isRegister _ | rfl
set_option maxHeartbeats 4000000 in
set_option maxRecDepth 100000 in
theorem mt_X4_isLess (l : Launch) (p0 : Int64) (p1 : Int64) : Met l yX4_isLess wsX4_isLess ({ frames := 0, cells := 0, slots := 0, locals := 0 }) (fun v _ => v = ([.long p0, .long p1] : List Value).toArray) (k2_QcV (.int (f_X4_isLess p0 p1))) 0 0 (fun _ => False) := by
  refine Met.ofW (cc := cX4_isLess) (maxL := 4) (ret := (some .boolean)) (by decide) rfl ?_
  intro p e s m args below meth c s₁ B hml hv
  subst hv
  have hx := B.exec
  have hb := B.bytes
  have hr := B.returns
  have hts0 := atoms_spec (ws := wsX4_isLess) B.pre
  have hts := fun (w : Cond) (h : w ∈ lw_G) => hts0 w (List.mem_cons_of_mem _ h)
  have hown : s.vm.findClass RX4 = some m.cls := findClass_of_methodNamed B.named
  have hlocks := B.notSynchronized
  have hl := lv_entry ([.long p0, .long p1]) (n := 4) (Nat.le_of_ble_eq_true rfl)
  rw [lg_entry_eq]
  generalize (lg_sl ([.long p0, .long p1]) ++ List.replicate (4 - (lg_sl ([.long p0, .long p1])).length) Slot.unset).toArray = ls at hl ⊢
  have hl : lv_has ls 4 [(0, .long p0), (2, .long p1)] := hl
  refine lv_lload_n hx hb dX4_isLess_0 rfl (lv_at hl 0 rfl) ?_
  refine lv_lconst (v := (0 : Int64)) hx hb dX4_isLess_1 (by decide) ?_
  refine W.lcmp hx hb dX4_isLess_2 ?_
  refine lv_if_ge (tgt := 10) hx hb dX4_isLess_3 (by decide) (fun c1 => ?_) (fun c1 => ?_)
  · have c1 := (lg_cmp_ge p0 (0 : Int64)).mp c1
    refine lv_iconst (v := (0 : Int32)) hx hb dX4_isLess_10 (by decide) ?_
    refine lv_lload_n hx hb dX4_isLess_11 rfl (lv_at hl 1 rfl) ?_
    refine lv_lconst (v := (0 : Int64)) hx hb dX4_isLess_12 (by decide) ?_
    refine W.lcmp hx hb dX4_isLess_13 ?_
    refine lv_if_ge (tgt := 21) hx hb dX4_isLess_14 (by decide) (fun c2 => ?_) (fun c2 => ?_)
    · have c2 := (lg_cmp_ge p1 (0 : Int64)).mp c2
      refine lv_iconst (v := (0 : Int32)) hx hb dX4_isLess_21 (by decide) ?_
      refine lv_icmp_ne (tgt := 39) hx hb dX4_isLess_22 (by decide) (fun c3 => ?_) (fun c3 => ?_)
      · refine lv_lload_n hx hb dX4_isLess_39 rfl (lv_at hl 1 rfl) ?_
        refine lv_lconst (v := (0 : Int64)) hx hb dX4_isLess_40 (by decide) ?_
        refine W.lcmp hx hb dX4_isLess_41 ?_
        refine lv_if_ge (tgt := 49) hx hb dX4_isLess_42 (by decide) (fun c4 => ?_) (fun c4 => ?_)
        · have c4 := (lg_cmp_ge p1 (0 : Int64)).mp c4
          refine lv_iconst (v := (0 : Int32)) hx hb dX4_isLess_49 (by decide) ?_
          have hF : f_X4_isLess p0 p1 = (0 : Int32) := by unfold f_X4_isLess; rw [if_pos c1, if_pos c2, if_neg c3, if_pos c4]
          exact W.zret (v := (0 : Int32)) hx hb hr rfl (fun t ht hW => ⟨by rw [hF], ht⟩) (fun _ h => by cases h) dX4_isLess_50
        · have c4 := mt (lg_cmp_ge p1 (0 : Int64)).mpr c4
          refine lv_iconst (v := (1 : Int32)) hx hb dX4_isLess_45 (by decide) ?_
          refine lv_goto (tgt := 50) hx hb dX4_isLess_46 (by decide) ?_
          have hF : f_X4_isLess p0 p1 = (1 : Int32) := by unfold f_X4_isLess; rw [if_pos c1, if_pos c2, if_neg c3, if_neg c4]
          exact W.zret (v := (1 : Int32)) hx hb hr rfl (fun t ht hW => ⟨by rw [hF], ht⟩) (fun _ h => by cases h) dX4_isLess_50
      · refine lv_lload_n hx hb dX4_isLess_25 rfl (lv_at hl 0 rfl) ?_
        refine lv_lload_n hx hb dX4_isLess_26 rfl (lv_at hl 1 rfl) ?_
        refine W.lcmp hx hb dX4_isLess_27 ?_
        refine lv_if_ge (tgt := 35) hx hb dX4_isLess_28 (by decide) (fun c5 => ?_) (fun c5 => ?_)
        · have c5 := (lg_cmp_ge p0 p1).mp c5
          refine lv_iconst (v := (0 : Int32)) hx hb dX4_isLess_35 (by decide) ?_
          refine lv_goto (tgt := 50) hx hb dX4_isLess_36 (by decide) ?_
          have hF : f_X4_isLess p0 p1 = (0 : Int32) := by unfold f_X4_isLess; rw [if_pos c1, if_pos c2, if_pos c3, if_pos c5]
          exact W.zret (v := (0 : Int32)) hx hb hr rfl (fun t ht hW => ⟨by rw [hF], ht⟩) (fun _ h => by cases h) dX4_isLess_50
        · have c5 := mt (lg_cmp_ge p0 p1).mpr c5
          refine lv_iconst (v := (1 : Int32)) hx hb dX4_isLess_31 (by decide) ?_
          refine lv_goto (tgt := 50) hx hb dX4_isLess_32 (by decide) ?_
          have hF : f_X4_isLess p0 p1 = (1 : Int32) := by unfold f_X4_isLess; rw [if_pos c1, if_pos c2, if_pos c3, if_neg c5]
          exact W.zret (v := (1 : Int32)) hx hb hr rfl (fun t ht hW => ⟨by rw [hF], ht⟩) (fun _ h => by cases h) dX4_isLess_50
    · have c2 := mt (lg_cmp_ge p1 (0 : Int64)).mpr c2
      refine lv_iconst (v := (1 : Int32)) hx hb dX4_isLess_17 (by decide) ?_
      refine lv_goto (tgt := 22) hx hb dX4_isLess_18 (by decide) ?_
      refine lv_icmp_ne (tgt := 39) hx hb dX4_isLess_22 (by decide) (fun c6 => ?_) (fun c6 => ?_)
      · refine lv_lload_n hx hb dX4_isLess_39 rfl (lv_at hl 1 rfl) ?_
        refine lv_lconst (v := (0 : Int64)) hx hb dX4_isLess_40 (by decide) ?_
        refine W.lcmp hx hb dX4_isLess_41 ?_
        refine lv_if_ge (tgt := 49) hx hb dX4_isLess_42 (by decide) (fun c7 => ?_) (fun c7 => ?_)
        · have c7 := (lg_cmp_ge p1 (0 : Int64)).mp c7
          refine lv_iconst (v := (0 : Int32)) hx hb dX4_isLess_49 (by decide) ?_
          have hF : f_X4_isLess p0 p1 = (0 : Int32) := by unfold f_X4_isLess; rw [if_pos c1, if_neg c2, if_neg c6, if_pos c7]
          exact W.zret (v := (0 : Int32)) hx hb hr rfl (fun t ht hW => ⟨by rw [hF], ht⟩) (fun _ h => by cases h) dX4_isLess_50
        · have c7 := mt (lg_cmp_ge p1 (0 : Int64)).mpr c7
          refine lv_iconst (v := (1 : Int32)) hx hb dX4_isLess_45 (by decide) ?_
          refine lv_goto (tgt := 50) hx hb dX4_isLess_46 (by decide) ?_
          have hF : f_X4_isLess p0 p1 = (1 : Int32) := by unfold f_X4_isLess; rw [if_pos c1, if_neg c2, if_neg c6, if_neg c7]
          exact W.zret (v := (1 : Int32)) hx hb hr rfl (fun t ht hW => ⟨by rw [hF], ht⟩) (fun _ h => by cases h) dX4_isLess_50
      · refine lv_lload_n hx hb dX4_isLess_25 rfl (lv_at hl 0 rfl) ?_
        refine lv_lload_n hx hb dX4_isLess_26 rfl (lv_at hl 1 rfl) ?_
        refine W.lcmp hx hb dX4_isLess_27 ?_
        refine lv_if_ge (tgt := 35) hx hb dX4_isLess_28 (by decide) (fun c8 => ?_) (fun c8 => ?_)
        · have c8 := (lg_cmp_ge p0 p1).mp c8
          refine lv_iconst (v := (0 : Int32)) hx hb dX4_isLess_35 (by decide) ?_
          refine lv_goto (tgt := 50) hx hb dX4_isLess_36 (by decide) ?_
          have hF : f_X4_isLess p0 p1 = (0 : Int32) := by unfold f_X4_isLess; rw [if_pos c1, if_neg c2, if_pos c6, if_pos c8]
          exact W.zret (v := (0 : Int32)) hx hb hr rfl (fun t ht hW => ⟨by rw [hF], ht⟩) (fun _ h => by cases h) dX4_isLess_50
        · have c8 := mt (lg_cmp_ge p0 p1).mpr c8
          refine lv_iconst (v := (1 : Int32)) hx hb dX4_isLess_31 (by decide) ?_
          refine lv_goto (tgt := 50) hx hb dX4_isLess_32 (by decide) ?_
          have hF : f_X4_isLess p0 p1 = (1 : Int32) := by unfold f_X4_isLess; rw [if_pos c1, if_neg c2, if_pos c6, if_neg c8]
          exact W.zret (v := (1 : Int32)) hx hb hr rfl (fun t ht hW => ⟨by rw [hF], ht⟩) (fun _ h => by cases h) dX4_isLess_50
  · have c1 := mt (lg_cmp_ge p0 (0 : Int64)).mpr c1
    refine lv_iconst (v := (1 : Int32)) hx hb dX4_isLess_6 (by decide) ?_
    refine lv_goto (tgt := 11) hx hb dX4_isLess_7 (by decide) ?_
    refine lv_lload_n hx hb dX4_isLess_11 rfl (lv_at hl 1 rfl) ?_
    refine lv_lconst (v := (0 : Int64)) hx hb dX4_isLess_12 (by decide) ?_
    refine W.lcmp hx hb dX4_isLess_13 ?_
    refine lv_if_ge (tgt := 21) hx hb dX4_isLess_14 (by decide) (fun c9 => ?_) (fun c9 => ?_)
    · have c9 := (lg_cmp_ge p1 (0 : Int64)).mp c9
      refine lv_iconst (v := (0 : Int32)) hx hb dX4_isLess_21 (by decide) ?_
      refine lv_icmp_ne (tgt := 39) hx hb dX4_isLess_22 (by decide) (fun c10 => ?_) (fun c10 => ?_)
      · refine lv_lload_n hx hb dX4_isLess_39 rfl (lv_at hl 1 rfl) ?_
        refine lv_lconst (v := (0 : Int64)) hx hb dX4_isLess_40 (by decide) ?_
        refine W.lcmp hx hb dX4_isLess_41 ?_
        refine lv_if_ge (tgt := 49) hx hb dX4_isLess_42 (by decide) (fun c11 => ?_) (fun c11 => ?_)
        · have c11 := (lg_cmp_ge p1 (0 : Int64)).mp c11
          refine lv_iconst (v := (0 : Int32)) hx hb dX4_isLess_49 (by decide) ?_
          have hF : f_X4_isLess p0 p1 = (0 : Int32) := by unfold f_X4_isLess; rw [if_neg c1, if_pos c9, if_neg c10, if_pos c11]
          exact W.zret (v := (0 : Int32)) hx hb hr rfl (fun t ht hW => ⟨by rw [hF], ht⟩) (fun _ h => by cases h) dX4_isLess_50
        · have c11 := mt (lg_cmp_ge p1 (0 : Int64)).mpr c11
          refine lv_iconst (v := (1 : Int32)) hx hb dX4_isLess_45 (by decide) ?_
          refine lv_goto (tgt := 50) hx hb dX4_isLess_46 (by decide) ?_
          have hF : f_X4_isLess p0 p1 = (1 : Int32) := by unfold f_X4_isLess; rw [if_neg c1, if_pos c9, if_neg c10, if_neg c11]
          exact W.zret (v := (1 : Int32)) hx hb hr rfl (fun t ht hW => ⟨by rw [hF], ht⟩) (fun _ h => by cases h) dX4_isLess_50
      · refine lv_lload_n hx hb dX4_isLess_25 rfl (lv_at hl 0 rfl) ?_
        refine lv_lload_n hx hb dX4_isLess_26 rfl (lv_at hl 1 rfl) ?_
        refine W.lcmp hx hb dX4_isLess_27 ?_
        refine lv_if_ge (tgt := 35) hx hb dX4_isLess_28 (by decide) (fun c12 => ?_) (fun c12 => ?_)
        · have c12 := (lg_cmp_ge p0 p1).mp c12
          refine lv_iconst (v := (0 : Int32)) hx hb dX4_isLess_35 (by decide) ?_
          refine lv_goto (tgt := 50) hx hb dX4_isLess_36 (by decide) ?_
          have hF : f_X4_isLess p0 p1 = (0 : Int32) := by unfold f_X4_isLess; rw [if_neg c1, if_pos c9, if_pos c10, if_pos c12]
          exact W.zret (v := (0 : Int32)) hx hb hr rfl (fun t ht hW => ⟨by rw [hF], ht⟩) (fun _ h => by cases h) dX4_isLess_50
        · have c12 := mt (lg_cmp_ge p0 p1).mpr c12
          refine lv_iconst (v := (1 : Int32)) hx hb dX4_isLess_31 (by decide) ?_
          refine lv_goto (tgt := 50) hx hb dX4_isLess_32 (by decide) ?_
          have hF : f_X4_isLess p0 p1 = (1 : Int32) := by unfold f_X4_isLess; rw [if_neg c1, if_pos c9, if_pos c10, if_neg c12]
          exact W.zret (v := (1 : Int32)) hx hb hr rfl (fun t ht hW => ⟨by rw [hF], ht⟩) (fun _ h => by cases h) dX4_isLess_50
    · have c9 := mt (lg_cmp_ge p1 (0 : Int64)).mpr c9
      refine lv_iconst (v := (1 : Int32)) hx hb dX4_isLess_17 (by decide) ?_
      refine lv_goto (tgt := 22) hx hb dX4_isLess_18 (by decide) ?_
      refine lv_icmp_ne (tgt := 39) hx hb dX4_isLess_22 (by decide) (fun c13 => ?_) (fun c13 => ?_)
      · refine lv_lload_n hx hb dX4_isLess_39 rfl (lv_at hl 1 rfl) ?_
        refine lv_lconst (v := (0 : Int64)) hx hb dX4_isLess_40 (by decide) ?_
        refine W.lcmp hx hb dX4_isLess_41 ?_
        refine lv_if_ge (tgt := 49) hx hb dX4_isLess_42 (by decide) (fun c14 => ?_) (fun c14 => ?_)
        · have c14 := (lg_cmp_ge p1 (0 : Int64)).mp c14
          refine lv_iconst (v := (0 : Int32)) hx hb dX4_isLess_49 (by decide) ?_
          have hF : f_X4_isLess p0 p1 = (0 : Int32) := by unfold f_X4_isLess; rw [if_neg c1, if_neg c9, if_neg c13, if_pos c14]
          exact W.zret (v := (0 : Int32)) hx hb hr rfl (fun t ht hW => ⟨by rw [hF], ht⟩) (fun _ h => by cases h) dX4_isLess_50
        · have c14 := mt (lg_cmp_ge p1 (0 : Int64)).mpr c14
          refine lv_iconst (v := (1 : Int32)) hx hb dX4_isLess_45 (by decide) ?_
          refine lv_goto (tgt := 50) hx hb dX4_isLess_46 (by decide) ?_
          have hF : f_X4_isLess p0 p1 = (1 : Int32) := by unfold f_X4_isLess; rw [if_neg c1, if_neg c9, if_neg c13, if_neg c14]
          exact W.zret (v := (1 : Int32)) hx hb hr rfl (fun t ht hW => ⟨by rw [hF], ht⟩) (fun _ h => by cases h) dX4_isLess_50
      · refine lv_lload_n hx hb dX4_isLess_25 rfl (lv_at hl 0 rfl) ?_
        refine lv_lload_n hx hb dX4_isLess_26 rfl (lv_at hl 1 rfl) ?_
        refine W.lcmp hx hb dX4_isLess_27 ?_
        refine lv_if_ge (tgt := 35) hx hb dX4_isLess_28 (by decide) (fun c15 => ?_) (fun c15 => ?_)
        · have c15 := (lg_cmp_ge p0 p1).mp c15
          refine lv_iconst (v := (0 : Int32)) hx hb dX4_isLess_35 (by decide) ?_
          refine lv_goto (tgt := 50) hx hb dX4_isLess_36 (by decide) ?_
          have hF : f_X4_isLess p0 p1 = (0 : Int32) := by unfold f_X4_isLess; rw [if_neg c1, if_neg c9, if_pos c13, if_pos c15]
          exact W.zret (v := (0 : Int32)) hx hb hr rfl (fun t ht hW => ⟨by rw [hF], ht⟩) (fun _ h => by cases h) dX4_isLess_50
        · have c15 := mt (lg_cmp_ge p0 p1).mpr c15
          refine lv_iconst (v := (1 : Int32)) hx hb dX4_isLess_31 (by decide) ?_
          refine lv_goto (tgt := 50) hx hb dX4_isLess_32 (by decide) ?_
          have hF : f_X4_isLess p0 p1 = (1 : Int32) := by unfold f_X4_isLess; rw [if_neg c1, if_neg c9, if_pos c13, if_neg c15]
          exact W.zret (v := (1 : Int32)) hx hb hr rfl (fun t ht hW => ⟨by rw [hF], ht⟩) (fun _ h => by cases h) dX4_isLess_50

def f_X4_truth (p0 : Int32) : Int64 :=
  if p0 = 0 then
    (0 : Int64)
  else
    (1 : Int64)
set_option maxHeartbeats 4000000 in
set_option maxRecDepth 100000 in
theorem mt_X4_truth (l : Launch) (p0 : Int32) : Met l yX4_truth wsX4_truth ({ frames := 0, cells := 0, slots := 0, locals := 0 }) (fun v _ => v = ([.int p0] : List Value).toArray) (k2_QcV (.long (f_X4_truth p0))) 0 0 (fun _ => False) := by
  refine Met.ofW (cc := cX4_truth) (maxL := 1) (ret := (some .long)) (by decide) rfl ?_
  intro p e s m args below meth c s₁ B hml hv
  subst hv
  have hx := B.exec
  have hb := B.bytes
  have hr := B.returns
  have hts0 := atoms_spec (ws := wsX4_truth) B.pre
  have hts := fun (w : Cond) (h : w ∈ lw_G) => hts0 w (List.mem_cons_of_mem _ h)
  have hown : s.vm.findClass RX4 = some m.cls := findClass_of_methodNamed B.named
  have hlocks := B.notSynchronized
  have hl := lv_entry ([.int p0]) (n := 1) (Nat.le_of_ble_eq_true rfl)
  rw [lg_entry_eq]
  generalize (lg_sl ([.int p0]) ++ List.replicate (1 - (lg_sl ([.int p0])).length) Slot.unset).toArray = ls at hl ⊢
  have hl : lv_has ls 1 [(0, .int p0)] := hl
  refine lv_iload_n hx hb dX4_truth_0 rfl (lv_at hl 0 rfl) ?_
  refine lv_if_eq (tgt := 8) hx hb dX4_truth_1 (by decide) (fun c1 => ?_) (fun c1 => ?_)
  · refine lv_lconst (v := (0 : Int64)) hx hb dX4_truth_8 (by decide) ?_
    have hF : f_X4_truth p0 = (0 : Int64) := by unfold f_X4_truth; rw [if_pos c1]
    exact W.lret (v := (0 : Int64)) hx hb hr (fun t ht hW => ⟨by rw [hF], ht⟩) (fun _ h => by cases h) dX4_truth_9
  · refine lv_lconst (v := (1 : Int64)) hx hb dX4_truth_4 (by decide) ?_
    refine lv_goto (tgt := 9) hx hb dX4_truth_5 (by decide) ?_
    have hF : f_X4_truth p0 = (1 : Int64) := by unfold f_X4_truth; rw [if_neg c1]
    exact W.lret (v := (1 : Int64)) hx hb hr (fun t ht hW => ⟨by rw [hF], ht⟩) (fun _ h => by cases h) dX4_truth_9

def f_X4_power (p0 : Int32) : Int64 :=
  if p0 = 0 then
    (1 : Int64)
  else if p0 = (1 : Int32) then
    (2 : Int64)
  else if p0 = (2 : Int32) then
    (4 : Int64)
  else
    (8 : Int64)
set_option maxHeartbeats 4000000 in
set_option maxRecDepth 100000 in
theorem mt_X4_power (l : Launch) (p0 : Int32) : Met l yX4_power wsX4_power ({ frames := 0, cells := 0, slots := 0, locals := 0 }) (fun v _ => v = ([.int p0] : List Value).toArray) (k2_QcV (.long (f_X4_power p0))) 0 0 (fun _ => False) := by
  refine Met.ofW (cc := cX4_power) (maxL := 1) (ret := (some .long)) (by decide) rfl ?_
  intro p e s m args below meth c s₁ B hml hv
  subst hv
  have hx := B.exec
  have hb := B.bytes
  have hr := B.returns
  have hts0 := atoms_spec (ws := wsX4_power) B.pre
  have hts := fun (w : Cond) (h : w ∈ lw_G) => hts0 w (List.mem_cons_of_mem _ h)
  have hown : s.vm.findClass RX4 = some m.cls := findClass_of_methodNamed B.named
  have hlocks := B.notSynchronized
  have hl := lv_entry ([.int p0]) (n := 1) (Nat.le_of_ble_eq_true rfl)
  rw [lg_entry_eq]
  generalize (lg_sl ([.int p0]) ++ List.replicate (1 - (lg_sl ([.int p0])).length) Slot.unset).toArray = ls at hl ⊢
  have hl : lv_has ls 1 [(0, .int p0)] := hl
  refine lv_iload_n hx hb dX4_power_0 rfl (lv_at hl 0 rfl) ?_
  refine lv_if_ne (tgt := 8) hx hb dX4_power_1 (by decide) (fun c1 => ?_) (fun c1 => ?_)
  · refine lv_iload_n hx hb dX4_power_8 rfl (lv_at hl 0 rfl) ?_
    refine lv_iconst (v := (1 : Int32)) hx hb dX4_power_9 (by decide) ?_
    refine lv_icmp_ne (tgt := 19) hx hb dX4_power_10 (by decide) (fun c2 => ?_) (fun c2 => ?_)
    · refine lv_iload_n hx hb dX4_power_19 rfl (lv_at hl 0 rfl) ?_
      refine lv_iconst (v := (2 : Int32)) hx hb dX4_power_20 (by decide) ?_
      refine lv_icmp_ne (tgt := 30) hx hb dX4_power_21 (by decide) (fun c3 => ?_) (fun c3 => ?_)
      · refine lv_ldc2 (v := (8 : Int64)) hx hb hown (hts _ qw_246) dX4_power_30 ?_
        have hF : f_X4_power p0 = (8 : Int64) := by unfold f_X4_power; rw [if_neg c1, if_neg c2, if_neg c3]
        exact W.lret (v := (8 : Int64)) hx hb hr (fun t ht hW => ⟨by rw [hF], ht⟩) (fun _ h => by cases h) dX4_power_33
      · refine lv_ldc2 (v := (4 : Int64)) hx hb hown (hts _ qw_247) dX4_power_24 ?_
        refine lv_goto (tgt := 33) hx hb dX4_power_27 (by decide) ?_
        have hF : f_X4_power p0 = (4 : Int64) := by unfold f_X4_power; rw [if_neg c1, if_neg c2, if_pos c3]
        exact W.lret (v := (4 : Int64)) hx hb hr (fun t ht hW => ⟨by rw [hF], ht⟩) (fun _ h => by cases h) dX4_power_33
    · refine lv_ldc2 (v := (2 : Int64)) hx hb hown (hts _ qw_248) dX4_power_13 ?_
      refine lv_goto (tgt := 33) hx hb dX4_power_16 (by decide) ?_
      have hF : f_X4_power p0 = (2 : Int64) := by unfold f_X4_power; rw [if_neg c1, if_pos c2]
      exact W.lret (v := (2 : Int64)) hx hb hr (fun t ht hW => ⟨by rw [hF], ht⟩) (fun _ h => by cases h) dX4_power_33
  · refine lv_lconst (v := (1 : Int64)) hx hb dX4_power_4 (by decide) ?_
    refine lv_goto (tgt := 33) hx hb dX4_power_5 (by decide) ?_
    have hF : f_X4_power p0 = (1 : Int64) := by unfold f_X4_power; rw [if_pos c1]
    exact W.lret (v := (1 : Int64)) hx hb hr (fun t ht hW => ⟨by rw [hF], ht⟩) (fun _ h => by cases h) dX4_power_33

def f_X4_plain (p0 : Int32) (p1 : Int64) (p2 : Int64) (p3 : Int32) : Int64 :=
  if p0 = (0 : Int32) then
    (p1 + p2)
  else if p0 = (1 : Int32) then
    (j_lshl p1 p3)
  else if p0 = (2 : Int32) then
    if p2 ≤ p1 then
      (f_X4_truth (0 : Int32))
    else
      (f_X4_truth (1 : Int32))
  else if p0 = (3 : Int32) then
    (f_X4_truth (f_X4_isLess p1 p2))
  else if p0 = (4 : Int32) then
    (p1 ^^^ p2)
  else if p0 = (5 : Int32) then
    (j_lushr p1 p3)
  else if p0 = (6 : Int32) then
    (p1 ||| p2)
  else
    (p1 &&& p2)
set_option maxHeartbeats 4000000 in
set_option maxRecDepth 100000 in
theorem mt_X4_plain (l : Launch) (p0 : Int32) (p1 : Int64) (p2 : Int64) (p3 : Int32) : Met l yX4_plain wsX4_plain ({ frames := 1, cells := 0, slots := 0, locals := 23 }) (fun v _ => v = ([.int p0, .long p1, .long p2, .int p3] : List Value).toArray) (k2_QcV (.long (f_X4_plain p0 p1 p2 p3))) 0 0 (fun _ => False) := by
  refine Met.ofW (cc := cX4_plain) (maxL := 6) (ret := (some .long)) (by decide) rfl ?_
  intro p e s m args below meth c s₁ B hml hv
  subst hv
  have hx := B.exec
  have hb := B.bytes
  have hr := B.returns
  have hts0 := atoms_spec (ws := wsX4_plain) B.pre
  have hts := fun (w : Cond) (h : w ∈ lw_G) => hts0 w (List.mem_cons_of_mem _ h)
  have hown : s.vm.findClass RX4 = some m.cls := findClass_of_methodNamed B.named
  have hlocks := B.notSynchronized
  have hl := lv_entry ([.int p0, .long p1, .long p2, .int p3]) (n := 6) (Nat.le_of_ble_eq_true rfl)
  rw [lg_entry_eq]
  generalize (lg_sl ([.int p0, .long p1, .long p2, .int p3]) ++ List.replicate (6 - (lg_sl ([.int p0, .long p1, .long p2, .int p3])).length) Slot.unset).toArray = ls at hl ⊢
  have hl : lv_has ls 6 [(0, .int p0), (1, .long p1), (3, .long p2), (5, .int p3)] := hl
  refine lv_iload_n hx hb dX4_plain_0 rfl (lv_at hl 0 rfl) ?_
  by_cases c1 : p0 = (0 : Int32)
  · refine lv_tableIn (tgt := 44) (off := 43) hx hb dX4_plain_1 (by rw [c1]; decide) (by rw [c1]; decide) (by rw [c1]; decide +kernel) (by decide) ?_
    refine lv_lload_n hx hb dX4_plain_44 rfl (lv_at hl 1 rfl) ?_
    refine lv_lload_n hx hb dX4_plain_45 rfl (lv_at hl 2 rfl) ?_
    refine lv_ladd hx hb dX4_plain_46 ?_
    have hF : f_X4_plain p0 p1 p2 p3 = (p1 + p2) := by unfold f_X4_plain; rw [if_pos c1]
    exact W.lret (v := (p1 + p2)) hx hb hr (fun t ht hW => ⟨by rw [hF], ht⟩) (fun _ h => by cases h) dX4_plain_47
  · by_cases c2 : p0 = (1 : Int32)
    · refine lv_tableIn (tgt := 48) (off := 47) hx hb dX4_plain_1 (by rw [c2]; decide) (by rw [c2]; decide) (by rw [c2]; decide +kernel) (by decide) ?_
      refine lv_lload_n hx hb dX4_plain_48 rfl (lv_at hl 1 rfl) ?_
      refine lv_iload hx hb dX4_plain_49 (lv_at hl 3 rfl) ?_
      refine lv_lshl (v := (j_lshl p1 p3)) hx hb dX4_plain_51 rfl ?_
      have hF : f_X4_plain p0 p1 p2 p3 = (j_lshl p1 p3) := by unfold f_X4_plain; rw [if_neg c1, if_pos c2]
      exact W.lret (v := (j_lshl p1 p3)) hx hb hr (fun t ht hW => ⟨by rw [hF], ht⟩) (fun _ h => by cases h) dX4_plain_52
    · by_cases c3 : p0 = (2 : Int32)
      · refine lv_tableIn (tgt := 53) (off := 52) hx hb dX4_plain_1 (by rw [c3]; decide) (by rw [c3]; decide) (by rw [c3]; decide +kernel) (by decide) ?_
        refine lv_lload_n hx hb dX4_plain_53 rfl (lv_at hl 1 rfl) ?_
        refine lv_lload_n hx hb dX4_plain_54 rfl (lv_at hl 2 rfl) ?_
        refine W.lcmp hx hb dX4_plain_55 ?_
        refine lv_if_ge (tgt := 63) hx hb dX4_plain_56 (by decide) (fun c4 => ?_) (fun c4 => ?_)
        · have c4 := (lg_cmp_ge p1 p2).mp c4
          refine lv_iconst (v := (0 : Int32)) hx hb dX4_plain_63 (by decide) ?_
          refine W.callV (W.runS (As := [.int (0 : Int32)]) (rest := []) ⟨hx, hb, hml, hown, hts⟩ (mt_X4_truth l (0 : Int32)) (va_cwS 1 hts gX4_95_X4_truth rfl rfl rfl (by decide +kernel) ⟨Nat.le_of_ble_eq_true rfl, Nat.le_of_ble_eq_true rfl⟩) preEq rfl rfl hl.1 rfl (lv_room (Nat.le_of_ble_eq_true rfl)) dX4_plain_64 ⟨Nat.le_of_ble_eq_true rfl, Nat.le_of_ble_eq_true rfl⟩) ?_
          refine W.eq (g2 := F0 m 67 ls [.long (f_X4_truth (0 : Int32))]) rfl ?_
          have hF : f_X4_plain p0 p1 p2 p3 = (f_X4_truth (0 : Int32)) := by unfold f_X4_plain; rw [if_neg c1, if_neg c2, if_pos c3, if_pos c4]
          exact W.lret (v := (f_X4_truth (0 : Int32))) hx hb hr (fun t ht hW => ⟨by rw [hF], ht⟩) (fun _ h => by cases h) dX4_plain_67
        · have c4 := mt (lg_cmp_ge p1 p2).mpr c4
          refine lv_iconst (v := (1 : Int32)) hx hb dX4_plain_59 (by decide) ?_
          refine lv_goto (tgt := 64) hx hb dX4_plain_60 (by decide) ?_
          refine W.callV (W.runS (As := [.int (1 : Int32)]) (rest := []) ⟨hx, hb, hml, hown, hts⟩ (mt_X4_truth l (1 : Int32)) (va_cwS 1 hts gX4_95_X4_truth rfl rfl rfl (by decide +kernel) ⟨Nat.le_of_ble_eq_true rfl, Nat.le_of_ble_eq_true rfl⟩) preEq rfl rfl hl.1 rfl (lv_room (Nat.le_of_ble_eq_true rfl)) dX4_plain_64 ⟨Nat.le_of_ble_eq_true rfl, Nat.le_of_ble_eq_true rfl⟩) ?_
          refine W.eq (g2 := F0 m 67 ls [.long (f_X4_truth (1 : Int32))]) rfl ?_
          have hF : f_X4_plain p0 p1 p2 p3 = (f_X4_truth (1 : Int32)) := by unfold f_X4_plain; rw [if_neg c1, if_neg c2, if_pos c3, if_neg c4]
          exact W.lret (v := (f_X4_truth (1 : Int32))) hx hb hr (fun t ht hW => ⟨by rw [hF], ht⟩) (fun _ h => by cases h) dX4_plain_67
      · by_cases c5 : p0 = (3 : Int32)
        · refine lv_tableIn (tgt := 68) (off := 67) hx hb dX4_plain_1 (by rw [c5]; decide) (by rw [c5]; decide) (by rw [c5]; decide +kernel) (by decide) ?_
          refine lv_lload_n hx hb dX4_plain_68 rfl (lv_at hl 1 rfl) ?_
          refine lv_lload_n hx hb dX4_plain_69 rfl (lv_at hl 2 rfl) ?_
          refine W.callV (W.runS (As := [.long p1, .long p2]) (rest := []) ⟨hx, hb, hml, hown, hts⟩ (mt_X4_isLess l p1 p2) (va_cwS 2 hts gX4_59_X4_isLess rfl rfl rfl (by decide +kernel) ⟨Nat.le_of_ble_eq_true rfl, Nat.le_of_ble_eq_true rfl⟩) preEq rfl rfl hl.1 rfl (lv_room (Nat.le_of_ble_eq_true rfl)) dX4_plain_70 ⟨Nat.le_of_ble_eq_true rfl, Nat.le_of_ble_eq_true rfl⟩) ?_
          refine W.eq (g2 := F0 m 73 ls [.int (f_X4_isLess p1 p2)]) rfl ?_
          refine W.callV (W.runS (As := [.int (f_X4_isLess p1 p2)]) (rest := []) ⟨hx, hb, hml, hown, hts⟩ (mt_X4_truth l (f_X4_isLess p1 p2)) (va_cwS 1 hts gX4_95_X4_truth rfl rfl rfl (by decide +kernel) ⟨Nat.le_of_ble_eq_true rfl, Nat.le_of_ble_eq_true rfl⟩) preEq rfl rfl hl.1 rfl (lv_room (Nat.le_of_ble_eq_true rfl)) dX4_plain_73 ⟨Nat.le_of_ble_eq_true rfl, Nat.le_of_ble_eq_true rfl⟩) ?_
          refine W.eq (g2 := F0 m 76 ls [.long (f_X4_truth (f_X4_isLess p1 p2))]) rfl ?_
          have hF : f_X4_plain p0 p1 p2 p3 = (f_X4_truth (f_X4_isLess p1 p2)) := by unfold f_X4_plain; rw [if_neg c1, if_neg c2, if_neg c3, if_pos c5]
          exact W.lret (v := (f_X4_truth (f_X4_isLess p1 p2))) hx hb hr (fun t ht hW => ⟨by rw [hF], ht⟩) (fun _ h => by cases h) dX4_plain_76
        · by_cases c6 : p0 = (4 : Int32)
          · refine lv_tableIn (tgt := 77) (off := 76) hx hb dX4_plain_1 (by rw [c6]; decide) (by rw [c6]; decide) (by rw [c6]; decide +kernel) (by decide) ?_
            refine lv_lload_n hx hb dX4_plain_77 rfl (lv_at hl 1 rfl) ?_
            refine lv_lload_n hx hb dX4_plain_78 rfl (lv_at hl 2 rfl) ?_
            refine lv_lxor hx hb dX4_plain_79 ?_
            have hF : f_X4_plain p0 p1 p2 p3 = (p1 ^^^ p2) := by unfold f_X4_plain; rw [if_neg c1, if_neg c2, if_neg c3, if_neg c5, if_pos c6]
            exact W.lret (v := (p1 ^^^ p2)) hx hb hr (fun t ht hW => ⟨by rw [hF], ht⟩) (fun _ h => by cases h) dX4_plain_80
          · by_cases c7 : p0 = (5 : Int32)
            · refine lv_tableIn (tgt := 81) (off := 80) hx hb dX4_plain_1 (by rw [c7]; decide) (by rw [c7]; decide) (by rw [c7]; decide +kernel) (by decide) ?_
              refine lv_lload_n hx hb dX4_plain_81 rfl (lv_at hl 1 rfl) ?_
              refine lv_iload hx hb dX4_plain_82 (lv_at hl 3 rfl) ?_
              refine lv_lushr (v := (j_lushr p1 p3)) hx hb dX4_plain_84 rfl ?_
              have hF : f_X4_plain p0 p1 p2 p3 = (j_lushr p1 p3) := by unfold f_X4_plain; rw [if_neg c1, if_neg c2, if_neg c3, if_neg c5, if_neg c6, if_pos c7]
              exact W.lret (v := (j_lushr p1 p3)) hx hb hr (fun t ht hW => ⟨by rw [hF], ht⟩) (fun _ h => by cases h) dX4_plain_85
            · by_cases c8 : p0 = (6 : Int32)
              · refine lv_tableIn (tgt := 86) (off := 85) hx hb dX4_plain_1 (by rw [c8]; decide) (by rw [c8]; decide) (by rw [c8]; decide +kernel) (by decide) ?_
                refine lv_lload_n hx hb dX4_plain_86 rfl (lv_at hl 1 rfl) ?_
                refine lv_lload_n hx hb dX4_plain_87 rfl (lv_at hl 2 rfl) ?_
                refine lv_lor hx hb dX4_plain_88 ?_
                have hF : f_X4_plain p0 p1 p2 p3 = (p1 ||| p2) := by unfold f_X4_plain; rw [if_neg c1, if_neg c2, if_neg c3, if_neg c5, if_neg c6, if_neg c7, if_pos c8]
                exact W.lret (v := (p1 ||| p2)) hx hb hr (fun t ht hW => ⟨by rw [hF], ht⟩) (fun _ h => by cases h) dX4_plain_89
              · refine lv_tableOut (tgt := 90) hx hb dX4_plain_1 (by have q0 := lv_neT (k := (0 : Int32)) (a := 0) c1 (by decide); have q1 := lv_neT (k := (1 : Int32)) (a := 1) c2 (by decide); have q2 := lv_neT (k := (2 : Int32)) (a := 2) c3 (by decide); have q3 := lv_neT (k := (3 : Int32)) (a := 3) c5 (by decide); have q4 := lv_neT (k := (4 : Int32)) (a := 4) c6 (by decide); have q5 := lv_neT (k := (5 : Int32)) (a := 5) c7 (by decide); have q6 := lv_neT (k := (6 : Int32)) (a := 6) c8 (by decide); omega) (by decide) ?_
                refine lv_lload_n hx hb dX4_plain_90 rfl (lv_at hl 1 rfl) ?_
                refine lv_lload_n hx hb dX4_plain_91 rfl (lv_at hl 2 rfl) ?_
                refine lv_land hx hb dX4_plain_92 ?_
                have hF : f_X4_plain p0 p1 p2 p3 = (p1 &&& p2) := by unfold f_X4_plain; rw [if_neg c1, if_neg c2, if_neg c3, if_neg c5, if_neg c6, if_neg c7, if_neg c8]
                exact W.lret (v := (p1 &&& p2)) hx hb hr (fun t ht hW => ⟨by rw [hF], ht⟩) (fun _ h => by cases h) dX4_plain_93
