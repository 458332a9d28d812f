def f_X1_isBelow (p0 : Int64) (p1 : Int64) : Int32 :=
  if 0 ≤ (f_J1_compareUnsigned p0 p1) then
    (0 : Int32)
  else
    (1 : Int32)
theorem nb_f_X1_isBelow (p0 : Int64) (p1 : Int64) : narrow .boolean (.int (f_X1_isBelow p0 p1)) = .int (f_X1_isBelow p0 p1) := by
  unfold f_X1_isBelow; (repeat' split) <;> first | rfl
set_option maxHeartbeats 4000000 in
set_option maxRecDepth 100000 in
theorem mt_X1_isBelow (l : Launch) (p0 : Int64) (p1 : Int64) : Met l yX1_isBelow wsX1_isBelow ({ frames := 2, cells := 0, slots := 0, locals := 46 }) (fun v _ => v = ([.long p0, .long p1] : List Value).toArray) (k2_QcV (.int (f_X1_isBelow p0 p1))) 0 0 (fun _ => False) := by
  refine Met.ofW (cc := cX1_isBelow) (maxL := 4) (ret := (some .boolean)) (by decide) rfl ?_
  intro p e s m args below meth c s₁ B hml hv
  subst hv
  have hx := B.exec
  have hb := B.bytes
  have hr := B.returns
  have hts0 := atoms_spec (ws := wsX1_isBelow) B.pre
  have hts := fun (w : Cond) (h : w ∈ lw_G) => hts0 w (List.mem_cons_of_mem _ h)
  have hown : s.vm.findClass RX1 = some m.cls := findClass_of_methodNamed B.named
  have hlocks := B.notSynchronized
  have hl := lv_entry ([.long p0, .long p1]) (n := 4) (Nat.le_of_ble_eq_true rfl)
  rw [lg_entry_eq]
  generalize (lg_sl ([.long p0, .long p1]) ++ List.replicate (4 - (lg_sl ([.long p0, .long p1])).length) Slot.unset).toArray = ls at hl ⊢
  have hl : lv_has ls 4 [(0, .long p0), (2, .long p1)] := hl
  refine lv_lload_n hx hb dX1_isBelow_0 rfl (lv_at hl 0 rfl) ?_
  refine lv_lload_n hx hb dX1_isBelow_1 rfl (lv_at hl 1 rfl) ?_
  refine W.callV (W.runS (As := [.long p0, .long p1]) (rest := []) ⟨hx, hb, hml, hown, hts⟩ (mt_J1_compareUnsigned l p0 p1) (va_cwS 2 hts gX1_35_J1_compareUnsigned rfl rfl rfl (by decide +kernel) ⟨Nat.le_of_ble_eq_true rfl, Nat.le_of_ble_eq_true rfl⟩) preEq rfl rfl hl.1 rfl (lv_room (Nat.le_of_ble_eq_true rfl)) dX1_isBelow_2 ⟨Nat.le_of_ble_eq_true rfl, Nat.le_of_ble_eq_true rfl⟩) ?_
  refine W.eq (g2 := F0 m 5 ls [.int (f_J1_compareUnsigned p0 p1)]) rfl ?_
  refine lv_if_ge (tgt := 12) hx hb dX1_isBelow_5 (by decide) (fun c1 => ?_) (fun c1 => ?_)
  · refine lv_iconst (v := (0 : Int32)) hx hb dX1_isBelow_12 (by decide) ?_
    have hF : f_X1_isBelow p0 p1 = (0 : Int32) := by unfold f_X1_isBelow; rw [if_pos c1]
    exact W.zret (v := (0 : Int32)) hx hb hr rfl (fun t ht hW => ⟨by rw [hF], ht⟩) (fun _ h => by cases h) dX1_isBelow_13
  · refine lv_iconst (v := (1 : Int32)) hx hb dX1_isBelow_8 (by decide) ?_
    refine lv_goto (tgt := 13) hx hb dX1_isBelow_9 (by decide) ?_
    have hF : f_X1_isBelow p0 p1 = (1 : Int32) := by unfold f_X1_isBelow; rw [if_neg c1]
    exact W.zret (v := (1 : Int32)) hx hb hr rfl (fun t ht hW => ⟨by rw [hF], ht⟩) (fun _ h => by cases h) dX1_isBelow_13

def f_X1_compares (p0 : Int32) (p1 : Int64) (p2 : Int64) : Int32 :=
  if p0 = (0 : Int32) then
    if p1 = p2 then
      (1 : Int32)
    else
      (0 : Int32)
  else if p0 = (1 : Int32) then
    if p1 = p2 then
      (0 : Int32)
    else
      (1 : Int32)
  else if p0 = (2 : Int32) then
    (0 : Int32)
  else if p0 = (3 : Int32) then
    (0 : Int32)
  else if p0 = (4 : Int32) then
    if p2 ≤ p1 then
      (0 : Int32)
    else
      (1 : Int32)
  else if p0 = (5 : Int32) then
    if p1 < p2 then
      (0 : Int32)
    else
      (1 : Int32)
  else if p0 = (6 : Int32) then
    (f_X1_isBelow p1 p2)
  else if p0 = (7 : Int32) then
    if (f_X1_isBelow p1 p2) = 0 then
      (1 : Int32)
    else
      (0 : Int32)
  else
    (0 : Int32)
theorem nb_f_X1_compares (p0 : Int32) (p1 : Int64) (p2 : Int64) : narrow .boolean (.int (f_X1_compares p0 p1 p2)) = .int (f_X1_compares p0 p1 p2) := by
  unfold f_X1_compares; (repeat' split) <;> first | with_reducible exact nb_f_X1_isBelow _ _ | rfl
set_option maxHeartbeats 4000000 in
set_option maxRecDepth 100000 in
theorem mt_X1_compares (l : Launch) (p0 : Int32) (p1 : Int64) (p2 : Int64) : Met l yX1_compares wsX1_compares ({ frames := 3, cells := 0, slots := 0, locals := 69 }) (fun v _ => v = ([.int p0, .long p1, .long p2] : List Value).toArray) (k2_QcV (.int (f_X1_compares p0 p1 p2))) 0 0 (fun _ => False) := by
  refine Met.ofW (cc := cX1_compares) (maxL := 5) (ret := (some .boolean)) (by decide) rfl ?_
  intro p e s m args below meth c s₁ B hml hv
  subst hv
  have hx := B.exec
  have hb := B.bytes
  have hr := B.returns
  have hts0 := atoms_spec (ws := wsX1_compares) B.pre
  have hts := fun (w : Cond) (h : w ∈ lw_G) => hts0 w (List.mem_cons_of_mem _ h)
  have hown : s.vm.findClass RX1 = some m.cls := findClass_of_methodNamed B.named
  have hlocks := B.notSynchronized
  have hl := lv_entry ([.int p0, .long p1, .long p2]) (n := 5) (Nat.le_of_ble_eq_true rfl)
  rw [lg_entry_eq]
  generalize (lg_sl ([.int p0, .long p1, .long p2]) ++ List.replicate (5 - (lg_sl ([.int p0, .long p1, .long p2])).length) Slot.unset).toArray = ls at hl ⊢
  have hl : lv_has ls 5 [(0, .int p0), (1, .long p1), (3, .long p2)] := hl
  refine lv_iload_n hx hb dX1_compares_0 rfl (lv_at hl 0 rfl) ?_
  by_cases c1 : p0 = (0 : Int32)
  · refine lv_tableIn (tgt := 48) (off := 47) hx hb dX1_compares_1 (by rw [c1]; decide) (by rw [c1]; decide) (by rw [c1]; decide +kernel) (by decide) ?_
    refine lv_lload_n hx hb dX1_compares_48 rfl (lv_at hl 1 rfl) ?_
    refine lv_lload_n hx hb dX1_compares_49 rfl (lv_at hl 2 rfl) ?_
    refine W.lcmp hx hb dX1_compares_50 ?_
    refine lv_if_ne (tgt := 58) hx hb dX1_compares_51 (by decide) (fun c2 => ?_) (fun c2 => ?_)
    · have c2 := mt (lg_cmp_eq p1 p2).mpr c2
      refine lv_iconst (v := (0 : Int32)) hx hb dX1_compares_58 (by decide) ?_
      have hF : f_X1_compares p0 p1 p2 = (0 : Int32) := by unfold f_X1_compares; rw [if_pos c1, if_neg c2]
      exact W.zret (v := (0 : Int32)) hx hb hr rfl (fun t ht hW => ⟨by rw [hF], ht⟩) (fun _ h => by cases h) dX1_compares_59
    · have c2 := (lg_cmp_eq p1 p2).mp c2
      refine lv_iconst (v := (1 : Int32)) hx hb dX1_compares_54 (by decide) ?_
      refine lv_goto (tgt := 59) hx hb dX1_compares_55 (by decide) ?_
      have hF : f_X1_compares p0 p1 p2 = (1 : Int32) := by unfold f_X1_compares; rw [if_pos c1, if_pos c2]
      exact W.zret (v := (1 : Int32)) hx hb hr rfl (fun t ht hW => ⟨by rw [hF], ht⟩) (fun _ h => by cases h) dX1_compares_59
  · by_cases c3 : p0 = (1 : Int32)
    · refine lv_tableIn (tgt := 60) (off := 59) hx hb dX1_compares_1 (by rw [c3]; decide) (by rw [c3]; decide) (by rw [c3]; decide +kernel) (by decide) ?_
      refine lv_lload_n hx hb dX1_compares_60 rfl (lv_at hl 1 rfl) ?_
      refine lv_lload_n hx hb dX1_compares_61 rfl (lv_at hl 2 rfl) ?_
      refine W.lcmp hx hb dX1_compares_62 ?_
      refine lv_if_eq (tgt := 70) hx hb dX1_compares_63 (by decide) (fun c4 => ?_) (fun c4 => ?_)
      · have c4 := (lg_cmp_eq p1 p2).mp c4
        refine lv_iconst (v := (0 : Int32)) hx hb dX1_compares_70 (by decide) ?_
        have hF : f_X1_compares p0 p1 p2 = (0 : Int32) := by unfold f_X1_compares; rw [if_neg c1, if_pos c3, if_pos c4]
        exact W.zret (v := (0 : Int32)) hx hb hr rfl (fun t ht hW => ⟨by rw [hF], ht⟩) (fun _ h => by cases h) dX1_compares_71
      · have c4 := mt (lg_cmp_eq p1 p2).mpr c4
        refine lv_iconst (v := (1 : Int32)) hx hb dX1_compares_66 (by decide) ?_
        refine lv_goto (tgt := 71) hx hb dX1_compares_67 (by decide) ?_
        have hF : f_X1_compares p0 p1 p2 = (1 : Int32) := by unfold f_X1_compares; rw [if_neg c1, if_pos c3, if_neg c4]
        exact W.zret (v := (1 : Int32)) hx hb hr rfl (fun t ht hW => ⟨by rw [hF], ht⟩) (fun _ h => by cases h) dX1_compares_71
    · by_cases c5 : p0 = (2 : Int32)
      · refine lv_tableIn (tgt := 116) (off := 115) hx hb dX1_compares_1 (by rw [c5]; decide) (by rw [c5]; decide) (by rw [c5]; decide +kernel) (by decide) ?_
        refine lv_iconst (v := (0 : Int32)) hx hb dX1_compares_116 (by decide) ?_
        have hF : f_X1_compares p0 p1 p2 = (0 : Int32) := by unfold f_X1_compares; rw [if_neg c1, if_neg c3, if_pos c5]
        exact W.zret (v := (0 : Int32)) hx hb hr rfl (fun t ht hW => ⟨by rw [hF], ht⟩) (fun _ h => by cases h) dX1_compares_117
      · by_cases c6 : p0 = (3 : Int32)
        · refine lv_tableIn (tgt := 116) (off := 115) hx hb dX1_compares_1 (by rw [c6]; decide) (by rw [c6]; decide) (by rw [c6]; decide +kernel) (by decide) ?_
          refine lv_iconst (v := (0 : Int32)) hx hb dX1_compares_116 (by decide) ?_
          have hF : f_X1_compares p0 p1 p2 = (0 : Int32) := by unfold f_X1_compares; rw [if_neg c1, if_neg c3, if_neg c5, if_pos c6]
          exact W.zret (v := (0 : Int32)) hx hb hr rfl (fun t ht hW => ⟨by rw [hF], ht⟩) (fun _ h => by cases h) dX1_compares_117
        · by_cases c7 : p0 = (4 : Int32)
          · refine lv_tableIn (tgt := 72) (off := 71) hx hb dX1_compares_1 (by rw [c7]; decide) (by rw [c7]; decide) (by rw [c7]; decide +kernel) (by decide) ?_
            refine lv_lload_n hx hb dX1_compares_72 rfl (lv_at hl 1 rfl) ?_
            refine lv_lload_n hx hb dX1_compares_73 rfl (lv_at hl 2 rfl) ?_
            refine W.lcmp hx hb dX1_compares_74 ?_
            refine lv_if_ge (tgt := 82) hx hb dX1_compares_75 (by decide) (fun c8 => ?_) (fun c8 => ?_)
            · have c8 := (lg_cmp_ge p1 p2).mp c8
              refine lv_iconst (v := (0 : Int32)) hx hb dX1_compares_82 (by decide) ?_
              have hF : f_X1_compares p0 p1 p2 = (0 : Int32) := by unfold f_X1_compares; rw [if_neg c1, if_neg c3, if_neg c5, if_neg c6, if_pos c7, if_pos c8]
              exact W.zret (v := (0 : Int32)) hx hb hr rfl (fun t ht hW => ⟨by rw [hF], ht⟩) (fun _ h => by cases h) dX1_compares_83
            · have c8 := mt (lg_cmp_ge p1 p2).mpr c8
              refine lv_iconst (v := (1 : Int32)) hx hb dX1_compares_78 (by decide) ?_
              refine lv_goto (tgt := 83) hx hb dX1_compares_79 (by decide) ?_
              have hF : f_X1_compares p0 p1 p2 = (1 : Int32) := by unfold f_X1_compares; rw [if_neg c1, if_neg c3, if_neg c5, if_neg c6, if_pos c7, if_neg c8]
              exact W.zret (v := (1 : Int32)) hx hb hr rfl (fun t ht hW => ⟨by rw [hF], ht⟩) (fun _ h => by cases h) dX1_compares_83
          · by_cases c9 : p0 = (5 : Int32)
            · refine lv_tableIn (tgt := 84) (off := 83) hx hb dX1_compares_1 (by rw [c9]; decide) (by rw [c9]; decide) (by rw [c9]; decide +kernel) (by decide) ?_
              refine lv_lload_n hx hb dX1_compares_84 rfl (lv_at hl 1 rfl) ?_
              refine lv_lload_n hx hb dX1_compares_85 rfl (lv_at hl 2 rfl) ?_
              refine W.lcmp hx hb dX1_compares_86 ?_
              refine lv_if_lt (tgt := 94) hx hb dX1_compares_87 (by decide) (fun c10 => ?_) (fun c10 => ?_)
              · have c10 := (lg_cmp_lt p1 p2).mp c10
                refine lv_iconst (v := (0 : Int32)) hx hb dX1_compares_94 (by decide) ?_
                have hF : f_X1_compares p0 p1 p2 = (0 : Int32) := by unfold f_X1_compares; rw [if_neg c1, if_neg c3, if_neg c5, if_neg c6, if_neg c7, if_pos c9, if_pos c10]
                exact W.zret (v := (0 : Int32)) hx hb hr rfl (fun t ht hW => ⟨by rw [hF], ht⟩) (fun _ h => by cases h) dX1_compares_95
              · have c10 := mt (lg_cmp_lt p1 p2).mpr c10
                refine lv_iconst (v := (1 : Int32)) hx hb dX1_compares_90 (by decide) ?_
                refine lv_goto (tgt := 95) hx hb dX1_compares_91 (by decide) ?_
                have hF : f_X1_compares p0 p1 p2 = (1 : Int32) := by unfold f_X1_compares; rw [if_neg c1, if_neg c3, if_neg c5, if_neg c6, if_neg c7, if_pos c9, if_neg c10]
                exact W.zret (v := (1 : Int32)) hx hb hr rfl (fun t ht hW => ⟨by rw [hF], ht⟩) (fun _ h => by cases h) dX1_compares_95
            · by_cases c11 : p0 = (6 : Int32)
              · refine lv_tableIn (tgt := 96) (off := 95) hx hb dX1_compares_1 (by rw [c11]; decide) (by rw [c11]; decide) (by rw [c11]; decide +kernel) (by decide) ?_
                refine lv_lload_n hx hb dX1_compares_96 rfl (lv_at hl 1 rfl) ?_
                refine lv_lload_n hx hb dX1_compares_97 rfl (lv_at hl 2 rfl) ?_
                refine W.callV (W.runS (As := [.long p1, .long p2]) (rest := []) ⟨hx, hb, hml, hown, hts⟩ (mt_X1_isBelow l p1 p2) (va_cwS 2 hts gX1_7_X1_isBelow rfl rfl rfl (by decide +kernel) ⟨Nat.le_of_ble_eq_true rfl, Nat.le_of_ble_eq_true rfl⟩) preEq rfl rfl hl.1 rfl (lv_room (Nat.le_of_ble_eq_true rfl)) dX1_compares_98 ⟨Nat.le_of_ble_eq_true rfl, Nat.le_of_ble_eq_true rfl⟩) ?_
                refine W.eq (g2 := F0 m 101 ls [.int (f_X1_isBelow p1 p2)]) rfl ?_
                have hF : f_X1_compares p0 p1 p2 = (f_X1_isBelow p1 p2) := by unfold f_X1_compares; rw [if_neg c1, if_neg c3, if_neg c5, if_neg c6, if_neg c7, if_neg c9, if_pos c11]
                exact W.zret (v := (f_X1_isBelow p1 p2)) hx hb hr (nb_f_X1_isBelow p1 p2) (fun t ht hW => ⟨by rw [hF], ht⟩) (fun _ h => by cases h) dX1_compares_101
              · by_cases c12 : p0 = (7 : Int32)
                · refine lv_tableIn (tgt := 102) (off := 101) hx hb dX1_compares_1 (by rw [c12]; decide) (by rw [c12]; decide) (by rw [c12]; decide +kernel) (by decide) ?_
                  refine lv_lload_n hx hb dX1_compares_102 rfl (lv_at hl 1 rfl) ?_
                  refine lv_lload_n hx hb dX1_compares_103 rfl (lv_at hl 2 rfl) ?_
                  refine W.callV (W.runS (As := [.long p1, .long p2]) (rest := []) ⟨hx, hb, hml, hown, hts⟩ (mt_X1_isBelow l p1 p2) (va_cwS 2 hts gX1_7_X1_isBelow rfl rfl rfl (by decide +kernel) ⟨Nat.le_of_ble_eq_true rfl, Nat.le_of_ble_eq_true rfl⟩) preEq rfl rfl hl.1 rfl (lv_room (Nat.le_of_ble_eq_true rfl)) dX1_compares_104 ⟨Nat.le_of_ble_eq_true rfl, Nat.le_of_ble_eq_true rfl⟩) ?_
                  refine W.eq (g2 := F0 m 107 ls [.int (f_X1_isBelow p1 p2)]) rfl ?_
                  refine lv_if_ne (tgt := 114) hx hb dX1_compares_107 (by decide) (fun c13 => ?_) (fun c13 => ?_)
                  · refine lv_iconst (v := (0 : Int32)) hx hb dX1_compares_114 (by decide) ?_
                    have hF : f_X1_compares p0 p1 p2 = (0 : Int32) := by unfold f_X1_compares; rw [if_neg c1, if_neg c3, if_neg c5, if_neg c6, if_neg c7, if_neg c9, if_neg c11, if_pos c12, if_neg c13]
                    exact W.zret (v := (0 : Int32)) hx hb hr rfl (fun t ht hW => ⟨by rw [hF], ht⟩) (fun _ h => by cases h) dX1_compares_115
                  · refine lv_iconst (v := (1 : Int32)) hx hb dX1_compares_110 (by decide) ?_
                    refine lv_goto (tgt := 115) hx hb dX1_compares_111 (by decide) ?_
                    have hF : f_X1_compares p0 p1 p2 = (1 : Int32) := by unfold f_X1_compares; rw [if_neg c1, if_neg c3, if_neg c5, if_neg c6, if_neg c7, if_neg c9, if_neg c11, if_pos c12, if_pos c13]
                    exact W.zret (v := (1 : Int32)) hx hb hr rfl (fun t ht hW => ⟨by rw [hF], ht⟩) (fun _ h => by cases h) dX1_compares_115
                · refine lv_tableOut (tgt := 116) hx hb dX1_compares_1 (by have q0 := lv_neT (k := (0 : Int32)) (a := 0) c1 (by decide); have q1 := lv_neT (k := (1 : Int32)) (a := 1) c3 (by decide); have q2 := lv_neT (k := (2 : Int32)) (a := 2) c5 (by decide); have q3 := lv_neT (k := (3 : Int32)) (a := 3) c6 (by decide); have q4 := lv_neT (k := (4 : Int32)) (a := 4) c7 (by decide); have q5 := lv_neT (k := (5 : Int32)) (a := 5) c9 (by decide); have q6 := lv_neT (k := (6 : Int32)) (a := 6) c11 (by decide); have q7 := lv_neT (k := (7 : Int32)) (a := 7) c12 (by decide); omega) (by decide) ?_
                  refine lv_iconst (v := (0 : Int32)) hx hb dX1_compares_116 (by decide) ?_
                  have hF : f_X1_compares p0 p1 p2 = (0 : Int32) := by unfold f_X1_compares; rw [if_neg c1, if_neg c3, if_neg c5, if_neg c6, if_neg c7, if_neg c9, if_neg c11, if_neg c12]
                  exact W.zret (v := (0 : Int32)) hx hb hr rfl (fun t ht hW => ⟨by rw [hF], ht⟩) (fun _ h => by cases h) dX1_compares_117

def f_X1_plain (p0 : Int32) (p1 : Int64) (p2 : Int64) : Int64 :=
  if p0 = (0 : Int32) then
    (p1 + p2)
  else if p0 = (1 : Int32) then
    (j_lshl p1 (p2 &&& (63 : Int64)).toInt32)
  else if p0 = (2 : Int32) then
    if p2 ≤ p1 then
      (0 : Int64)
    else
      (1 : Int64)
  else if p0 = (3 : Int32) then
    if (f_X1_isBelow p1 p2) = 0 then
      (0 : Int64)
    else
      (1 : Int64)
  else if p0 = (4 : Int32) then
    (p1 ^^^ p2)
  else if p0 = (5 : Int32) then
    (j_lushr p1 (p2 &&& (63 : Int64)).toInt32)
  else if p0 = (6 : Int32) then
    (p1 ||| p2)
  else
    (p1 &&& p2)
set_option maxHeartbeats 4000000 in
set_option maxRecDepth 100000 in
theorem mt_X1_plain (l : Launch) (p0 : Int32) (p1 : Int64) (p2 : Int64) : Met l yX1_plain wsX1_plain ({ frames := 3, cells := 0, slots := 0, locals := 69 }) (fun v _ => v = ([.int p0, .long p1, .long p2] : List Value).toArray) (k2_QcV (.long (f_X1_plain p0 p1 p2))) 0 0 (fun _ => False) := by
  refine Met.ofW (cc := cX1_plain) (maxL := 5) (ret := (some .long)) (by decide) rfl ?_
  intro p e s m args below meth c s₁ B hml hv
  subst hv
  have hx := B.exec
  have hb := B.bytes
  have hr := B.returns
  have hts0 := atoms_spec (ws := wsX1_plain) B.pre
  have hts := fun (w : Cond) (h : w ∈ lw_G) => hts0 w (List.mem_cons_of_mem _ h)
  have hown : s.vm.findClass RX1 = some m.cls := findClass_of_methodNamed B.named
  have hlocks := B.notSynchronized
  have hl := lv_entry ([.int p0, .long p1, .long p2]) (n := 5) (Nat.le_of_ble_eq_true rfl)
  rw [lg_entry_eq]
  generalize (lg_sl ([.int p0, .long p1, .long p2]) ++ List.replicate (5 - (lg_sl ([.int p0, .long p1, .long p2])).length) Slot.unset).toArray = ls at hl ⊢
  have hl : lv_has ls 5 [(0, .int p0), (1, .long p1), (3, .long p2)] := hl
  refine lv_iload_n hx hb dX1_plain_0 rfl (lv_at hl 0 rfl) ?_
  by_cases c1 : p0 = (0 : Int32)
  · refine lv_tableIn (tgt := 44) (off := 43) hx hb dX1_plain_1 (by rw [c1]; decide) (by rw [c1]; decide) (by rw [c1]; decide +kernel) (by decide) ?_
    refine lv_lload_n hx hb dX1_plain_44 rfl (lv_at hl 1 rfl) ?_
    refine lv_lload_n hx hb dX1_plain_45 rfl (lv_at hl 2 rfl) ?_
    refine lv_ladd hx hb dX1_plain_46 ?_
    have hF : f_X1_plain p0 p1 p2 = (p1 + p2) := by unfold f_X1_plain; rw [if_pos c1]
    exact W.lret (v := (p1 + p2)) hx hb hr (fun t ht hW => ⟨by rw [hF], ht⟩) (fun _ h => by cases h) dX1_plain_47
  · by_cases c2 : p0 = (1 : Int32)
    · refine lv_tableIn (tgt := 48) (off := 47) hx hb dX1_plain_1 (by rw [c2]; decide) (by rw [c2]; decide) (by rw [c2]; decide +kernel) (by decide) ?_
      refine lv_lload_n hx hb dX1_plain_48 rfl (lv_at hl 1 rfl) ?_
      refine lv_lload_n hx hb dX1_plain_49 rfl (lv_at hl 2 rfl) ?_
      refine lv_ldc2 (v := (63 : Int64)) hx hb hown (hts _ qw_22) dX1_plain_50 ?_
      refine lv_land hx hb dX1_plain_53 ?_
      refine lv_l2i (v := (p2 &&& (63 : Int64)).toInt32) hx hb dX1_plain_54 rfl ?_
      refine lv_lshl (v := (j_lshl p1 (p2 &&& (63 : Int64)).toInt32)) hx hb dX1_plain_55 rfl ?_
      have hF : f_X1_plain p0 p1 p2 = (j_lshl p1 (p2 &&& (63 : Int64)).toInt32) := by unfold f_X1_plain; rw [if_neg c1, if_pos c2]
      exact W.lret (v := (j_lshl p1 (p2 &&& (63 : Int64)).toInt32)) hx hb hr (fun t ht hW => ⟨by rw [hF], ht⟩) (fun _ h => by cases h) dX1_plain_56
    · by_cases c3 : p0 = (2 : Int32)
      · refine lv_tableIn (tgt := 57) (off := 56) hx hb dX1_plain_1 (by rw [c3]; decide) (by rw [c3]; decide) (by rw [c3]; decide +kernel) (by decide) ?_
        refine lv_lload_n hx hb dX1_plain_57 rfl (lv_at hl 1 rfl) ?_
        refine lv_lload_n hx hb dX1_plain_58 rfl (lv_at hl 2 rfl) ?_
        refine W.lcmp hx hb dX1_plain_59 ?_
        refine lv_if_ge (tgt := 67) hx hb dX1_plain_60 (by decide) (fun c4 => ?_) (fun c4 => ?_)
        · have c4 := (lg_cmp_ge p1 p2).mp c4
          refine lv_lconst (v := (0 : Int64)) hx hb dX1_plain_67 (by decide) ?_
          have hF : f_X1_plain p0 p1 p2 = (0 : Int64) := by unfold f_X1_plain; rw [if_neg c1, if_neg c2, if_pos c3, if_pos c4]
          exact W.lret (v := (0 : Int64)) hx hb hr (fun t ht hW => ⟨by rw [hF], ht⟩) (fun _ h => by cases h) dX1_plain_68
        · have c4 := mt (lg_cmp_ge p1 p2).mpr c4
          refine lv_lconst (v := (1 : Int64)) hx hb dX1_plain_63 (by decide) ?_
          refine lv_goto (tgt := 68) hx hb dX1_plain_64 (by decide) ?_
          have hF : f_X1_plain p0 p1 p2 = (1 : Int64) := by unfold f_X1_plain; rw [if_neg c1, if_neg c2, if_pos c3, if_neg c4]
          exact W.lret (v := (1 : Int64)) hx hb hr (fun t ht hW => ⟨by rw [hF], ht⟩) (fun _ h => by cases h) dX1_plain_68
      · by_cases c5 : p0 = (3 : Int32)
        · refine lv_tableIn (tgt := 69) (off := 68) hx hb dX1_plain_1 (by rw [c5]; decide) (by rw [c5]; decide) (by rw [c5]; decide +kernel) (by decide) ?_
          refine lv_lload_n hx hb dX1_plain_69 rfl (lv_at hl 1 rfl) ?_
          refine lv_lload_n hx hb dX1_plain_70 rfl (lv_at hl 2 rfl) ?_
          refine W.callV (W.runS (As := [.long p1, .long p2]) (rest := []) ⟨hx, hb, hml, hown, hts⟩ (mt_X1_isBelow l p1 p2) (va_cwS 2 hts gX1_7_X1_isBelow rfl rfl rfl (by decide +kernel) ⟨Nat.le_of_ble_eq_true rfl, Nat.le_of_ble_eq_true rfl⟩) preEq rfl rfl hl.1 rfl (lv_room (Nat.le_of_ble_eq_true rfl)) dX1_plain_71 ⟨Nat.le_of_ble_eq_true rfl, Nat.le_of_ble_eq_true rfl⟩) ?_
          refine W.eq (g2 := F0 m 74 ls [.int (f_X1_isBelow p1 p2)]) rfl ?_
          refine lv_if_eq (tgt := 81) hx hb dX1_plain_74 (by decide) (fun c6 => ?_) (fun c6 => ?_)
          · refine lv_lconst (v := (0 : Int64)) hx hb dX1_plain_81 (by decide) ?_
            have hF : f_X1_plain p0 p1 p2 = (0 : Int64) := by unfold f_X1_plain; rw [if_neg c1, if_neg c2, if_neg c3, if_pos c5, if_pos c6]
            exact W.lret (v := (0 : Int64)) hx hb hr (fun t ht hW => ⟨by rw [hF], ht⟩) (fun _ h => by cases h) dX1_plain_82
          · refine lv_lconst (v := (1 : Int64)) hx hb dX1_plain_77 (by decide) ?_
            refine lv_goto (tgt := 82) hx hb dX1_plain_78 (by decide) ?_
            have hF : f_X1_plain p0 p1 p2 = (1 : Int64) := by unfold f_X1_plain; rw [if_neg c1, if_neg c2, if_neg c3, if_pos c5, if_neg c6]
            exact W.lret (v := (1 : Int64)) hx hb hr (fun t ht hW => ⟨by rw [hF], ht⟩) (fun _ h => by cases h) dX1_plain_82
        · by_cases c7 : p0 = (4 : Int32)
          · refine lv_tableIn (tgt := 83) (off := 82) hx hb dX1_plain_1 (by rw [c7]; decide) (by rw [c7]; decide) (by rw [c7]; decide +kernel) (by decide) ?_
            refine lv_lload_n hx hb dX1_plain_83 rfl (lv_at hl 1 rfl) ?_
            refine lv_lload_n hx hb dX1_plain_84 rfl (lv_at hl 2 rfl) ?_
            refine lv_lxor hx hb dX1_plain_85 ?_
            have hF : f_X1_plain p0 p1 p2 = (p1 ^^^ p2) := by unfold f_X1_plain; rw [if_neg c1, if_neg c2, if_neg c3, if_neg c5, if_pos c7]
            exact W.lret (v := (p1 ^^^ p2)) hx hb hr (fun t ht hW => ⟨by rw [hF], ht⟩) (fun _ h => by cases h) dX1_plain_86
          · by_cases c8 : p0 = (5 : Int32)
            · refine lv_tableIn (tgt := 87) (off := 86) hx hb dX1_plain_1 (by rw [c8]; decide) (by rw [c8]; decide) (by rw [c8]; decide +kernel) (by decide) ?_
              refine lv_lload_n hx hb dX1_plain_87 rfl (lv_at hl 1 rfl) ?_
              refine lv_lload_n hx hb dX1_plain_88 rfl (lv_at hl 2 rfl) ?_
              refine lv_ldc2 (v := (63 : Int64)) hx hb hown (hts _ qw_22) dX1_plain_89 ?_
              refine lv_land hx hb dX1_plain_92 ?_
              refine lv_l2i (v := (p2 &&& (63 : Int64)).toInt32) hx hb dX1_plain_93 rfl ?_
              refine lv_lushr (v := (j_lushr p1 (p2 &&& (63 : Int64)).toInt32)) hx hb dX1_plain_94 rfl ?_
              have hF : f_X1_plain p0 p1 p2 = (j_lushr p1 (p2 &&& (63 : Int64)).toInt32) := by unfold f_X1_plain; rw [if_neg c1, if_neg c2, if_neg c3, if_neg c5, if_neg c7, if_pos c8]
              exact W.lret (v := (j_lushr p1 (p2 &&& (63 : Int64)).toInt32)) hx hb hr (fun t ht hW => ⟨by rw [hF], ht⟩) (fun _ h => by cases h) dX1_plain_95
            · by_cases c9 : p0 = (6 : Int32)
              · refine lv_tableIn (tgt := 96) (off := 95) hx hb dX1_plain_1 (by rw [c9]; decide) (by rw [c9]; decide) (by rw [c9]; decide +kernel) (by decide) ?_
                refine lv_lload_n hx hb dX1_plain_96 rfl (lv_at hl 1 rfl) ?_
                refine lv_lload_n hx hb dX1_plain_97 rfl (lv_at hl 2 rfl) ?_
                refine lv_lor hx hb dX1_plain_98 ?_
                have hF : f_X1_plain p0 p1 p2 = (p1 ||| p2) := by unfold f_X1_plain; rw [if_neg c1, if_neg c2, if_neg c3, if_neg c5, if_neg c7, if_neg c8, if_pos c9]
                exact W.lret (v := (p1 ||| p2)) hx hb hr (fun t ht hW => ⟨by rw [hF], ht⟩) (fun _ h => by cases h) dX1_plain_99
              · refine lv_tableOut (tgt := 100) hx hb dX1_plain_1 (by have q0 := lv_neT (k := (0 : Int32)) (a := 0) c1 (by decide); have q1 := lv_neT (k := (1 : Int32)) (a := 1) c2 (by decide); have q2 := lv_neT (k := (2 : Int32)) (a := 2) c3 (by decide); have q3 := lv_neT (k := (3 : Int32)) (a := 3) c5 (by decide); have q4 := lv_neT (k := (4 : Int32)) (a := 4) c7 (by decide); have q5 := lv_neT (k := (5 : Int32)) (a := 5) c8 (by decide); have q6 := lv_neT (k := (6 : Int32)) (a := 6) c9 (by decide); omega) (by decide) ?_
                refine lv_lload_n hx hb dX1_plain_100 rfl (lv_at hl 1 rfl) ?_
                refine lv_lload_n hx hb dX1_plain_101 rfl (lv_at hl 2 rfl) ?_
                refine lv_land hx hb dX1_plain_102 ?_
                have hF : f_X1_plain p0 p1 p2 = (p1 &&& p2) := by unfold f_X1_plain; rw [if_neg c1, if_neg c2, if_neg c3, if_neg c5, if_neg c7, if_neg c8, if_neg c9]
                exact W.lret (v := (p1 &&& p2)) hx hb hr (fun t ht hW => ⟨by rw [hF], ht⟩) (fun _ h => by cases h) dX1_plain_103

def f_X1_shiftRightWithSign (p0 : Int64) (p1 : Int64) : Int64 :=
  (j_lshr p0 (p1 &&& (63 : Int64)).toInt32)
set_option maxHeartbeats 4000000 in
set_option maxRecDepth 100000 in
theorem mt_X1_shiftRightWithSign (l : Launch) (p0 : Int64) (p1 : Int64) : Met l yX1_shiftRightWithSign wsX1_shiftRightWithSign ({ frames := 0, cells := 0, slots := 0, locals := 0 }) (fun v _ => v = ([.long p0, .long p1] : List Value).toArray) (k2_QcV (.long (f_X1_shiftRightWithSign p0 p1))) 0 0 (fun _ => False) := by
  refine Met.ofW (cc := cX1_shiftRightWithSign) (maxL := 4) (ret := (some .long)) (by decide) rfl ?_
  intro p e s m args below meth c s₁ B hml hv
  subst hv
  have hx := B.exec
  have hb := B.bytes
  have hr := B.returns
  have hts0 := atoms_spec (ws := wsX1_shiftRightWithSign) B.pre
  have hts := fun (w : Cond) (h : w ∈ lw_G) => hts0 w (List.mem_cons_of_mem _ h)
  have hown : s.vm.findClass RX1 = some m.cls := findClass_of_methodNamed B.named
  have hlocks := B.notSynchronized
  have hl := lv_entry ([.long p0, .long p1]) (n := 4) (Nat.le_of_ble_eq_true rfl)
  rw [lg_entry_eq]
  generalize (lg_sl ([.long p0, .long p1]) ++ List.replicate (4 - (lg_sl ([.long p0, .long p1])).length) Slot.unset).toArray = ls at hl ⊢
  have hl : lv_has ls 4 [(0, .long p0), (2, .long p1)] := hl
  refine lv_lload_n hx hb dX1_shiftRightWithSign_0 rfl (lv_at hl 0 rfl) ?_
  refine lv_lload_n hx hb dX1_shiftRightWithSign_1 rfl (lv_at hl 1 rfl) ?_
  refine lv_ldc2 (v := (63 : Int64)) hx hb hown (hts _ qw_22) dX1_shiftRightWithSign_2 ?_
  refine lv_land hx hb dX1_shiftRightWithSign_5 ?_
  refine lv_l2i (v := (p1 &&& (63 : Int64)).toInt32) hx hb dX1_shiftRightWithSign_6 rfl ?_
  refine lv_lshr (v := (j_lshr p0 (p1 &&& (63 : Int64)).toInt32)) hx hb dX1_shiftRightWithSign_7 rfl ?_
  have hF : f_X1_shiftRightWithSign p0 p1 = (j_lshr p0 (p1 &&& (63 : Int64)).toInt32) := rfl
  exact W.lret (v := (j_lshr p0 (p1 &&& (63 : Int64)).toInt32)) hx hb hr (fun t ht hW => ⟨by rw [hF], ht⟩) (fun _ h => by cases h) dX1_shiftRightWithSign_8

def f_X1_highWithUnsigned (p0 : Int64) (p1 : Int64) : Int64 :=
  if (0 : Int64) ≤ p1 then
    ((f_J2_multiplyHigh p0 p1) + (0 : Int64))
  else
    ((f_J2_multiplyHigh p0 p1) + p0)
set_option maxHeartbeats 4000000 in
set_option maxRecDepth 100000 in
theorem mt_X1_highWithUnsigned (l : Launch) (p0 : Int64) (p1 : Int64) : Met l yX1_highWithUnsigned wsX1_highWithUnsigned ({ frames := 1, cells := 0, slots := 0, locals := 39 }) (fun v _ => v = ([.long p0, .long p1] : List Value).toArray) (k2_QcV (.long (f_X1_highWithUnsigned p0 p1))) 0 0 (fun _ => False) := by
  refine Met.ofW (cc := cX1_highWithUnsigned) (maxL := 4) (ret := (some .long)) (by decide) rfl ?_
  intro p e s m args below meth c s₁ B hml hv
  subst hv
  have hx := B.exec
  have hb := B.bytes
  have hr := B.returns
  have hts0 := atoms_spec (ws := wsX1_highWithUnsigned) B.pre
  have hts := fun (w : Cond) (h : w ∈ lw_G) => hts0 w (List.mem_cons_of_mem _ h)
  have hown : s.vm.findClass RX1 = some m.cls := findClass_of_methodNamed B.named
  have hlocks := B.notSynchronized
  have hl := lv_entry ([.long p0, .long p1]) (n := 4) (Nat.le_of_ble_eq_true rfl)
  rw [lg_entry_eq]
  generalize (lg_sl ([.long p0, .long p1]) ++ List.replicate (4 - (lg_sl ([.long p0, .long p1])).length) Slot.unset).toArray = ls at hl ⊢
  have hl : lv_has ls 4 [(0, .long p0), (2, .long p1)] := hl
  refine lv_lload_n hx hb dX1_highWithUnsigned_0 rfl (lv_at hl 0 rfl) ?_
  refine lv_lload_n hx hb dX1_highWithUnsigned_1 rfl (lv_at hl 1 rfl) ?_
  refine W.callV (W.runS (As := [.long p0, .long p1]) (rest := []) ⟨hx, hb, hml, hown, hts⟩ (mt_J2_multiplyHigh l p0 p1) (va_cwS 2 hts gX1_15_J2_multiplyHigh rfl rfl rfl (by decide +kernel) ⟨Nat.le_of_ble_eq_true rfl, Nat.le_of_ble_eq_true rfl⟩) preEq rfl rfl hl.1 rfl (lv_room (Nat.le_of_ble_eq_true rfl)) dX1_highWithUnsigned_2 ⟨Nat.le_of_ble_eq_true rfl, Nat.le_of_ble_eq_true rfl⟩) ?_
  refine W.eq (g2 := F0 m 5 ls [.long (f_J2_multiplyHigh p0 p1)]) rfl ?_
  refine lv_lload_n hx hb dX1_highWithUnsigned_5 rfl (lv_at hl 1 rfl) ?_
  refine lv_lconst (v := (0 : Int64)) hx hb dX1_highWithUnsigned_6 (by decide) ?_
  refine W.lcmp hx hb dX1_highWithUnsigned_7 ?_
  refine lv_if_ge (tgt := 15) hx hb dX1_highWithUnsigned_8 (by decide) (fun c1 => ?_) (fun c1 => ?_)
  · have c1 := (lg_cmp_ge p1 (0 : Int64)).mp c1
    refine lv_lconst (v := (0 : Int64)) hx hb dX1_highWithUnsigned_15 (by decide) ?_
    refine lv_ladd hx hb dX1_highWithUnsigned_16 ?_
    have hF : f_X1_highWithUnsigned p0 p1 = ((f_J2_multiplyHigh p0 p1) + (0 : Int64)) := by unfold f_X1_highWithUnsigned; rw [if_pos c1]
    exact W.lret (v := ((f_J2_multiplyHigh p0 p1) + (0 : Int64))) hx hb hr (fun t ht hW => ⟨by rw [hF], ht⟩) (fun _ h => by cases h) dX1_highWithUnsigned_17
  · have c1 := mt (lg_cmp_ge p1 (0 : Int64)).mpr c1
    refine lv_lload_n hx hb dX1_highWithUnsigned_11 rfl (lv_at hl 0 rfl) ?_
    refine lv_goto (tgt := 16) hx hb dX1_highWithUnsigned_12 (by decide) ?_
    refine lv_ladd hx hb dX1_highWithUnsigned_16 ?_
    have hF : f_X1_highWithUnsigned p0 p1 = ((f_J2_multiplyHigh p0 p1) + p0) := by unfold f_X1_highWithUnsigned; rw [if_neg c1]
    exact W.lret (v := ((f_J2_multiplyHigh p0 p1) + p0)) hx hb hr (fun t ht hW => ⟨by rw [hF], ht⟩) (fun _ h => by cases h) dX1_highWithUnsigned_17

def f_X1_highUnsigned (p0 : Int64) (p1 : Int64) : Int64 :=
  if (0 : Int64) ≤ p0 then
    ((f_X1_highWithUnsigned p0 p1) + (0 : Int64))
  else
    ((f_X1_highWithUnsigned p0 p1) + p1)
set_option maxHeartbeats 4000000 in
set_option maxRecDepth 100000 in
theorem mt_X1_highUnsigned (l : Launch) (p0 : Int64) (p1 : Int64) : Met l yX1_highUnsigned wsX1_highUnsigned ({ frames := 2, cells := 0, slots := 0, locals := 62 }) (fun v _ => v = ([.long p0, .long p1] : List Value).toArray) (k2_QcV (.long (f_X1_highUnsigned p0 p1))) 0 0 (fun _ => False) := by
  refine Met.ofW (cc := cX1_highUnsigned) (maxL := 4) (ret := (some .long)) (by decide) rfl ?_
  intro p e s m args below meth c s₁ B hml hv
  subst hv
  have hx := B.exec
  have hb := B.bytes
  have hr := B.returns
  have hts0 := atoms_spec (ws := wsX1_highUnsigned) B.pre
  have hts := fun (w : Cond) (h : w ∈ lw_G) => hts0 w (List.mem_cons_of_mem _ h)
  have hown : s.vm.findClass RX1 = some m.cls := findClass_of_methodNamed B.named
  have hlocks := B.notSynchronized
  have hl := lv_entry ([.long p0, .long p1]) (n := 4) (Nat.le_of_ble_eq_true rfl)
  rw [lg_entry_eq]
  generalize (lg_sl ([.long p0, .long p1]) ++ List.replicate (4 - (lg_sl ([.long p0, .long p1])).length) Slot.unset).toArray = ls at hl ⊢
  have hl : lv_has ls 4 [(0, .long p0), (2, .long p1)] := hl
  refine lv_lload_n hx hb dX1_highUnsigned_0 rfl (lv_at hl 0 rfl) ?_
  refine lv_lload_n hx hb dX1_highUnsigned_1 rfl (lv_at hl 1 rfl) ?_
  refine W.callV (W.runS (As := [.long p0, .long p1]) (rest := []) ⟨hx, hb, hml, hown, hts⟩ (mt_X1_highWithUnsigned l p0 p1) (va_cwS 2 hts gX1_21_X1_highWithUnsigned rfl rfl rfl (by decide +kernel) ⟨Nat.le_of_ble_eq_true rfl, Nat.le_of_ble_eq_true rfl⟩) preEq rfl rfl hl.1 rfl (lv_room (Nat.le_of_ble_eq_true rfl)) dX1_highUnsigned_2 ⟨Nat.le_of_ble_eq_true rfl, Nat.le_of_ble_eq_true rfl⟩) ?_
  refine W.eq (g2 := F0 m 5 ls [.long (f_X1_highWithUnsigned p0 p1)]) rfl ?_
  refine lv_lload_n hx hb dX1_highUnsigned_5 rfl (lv_at hl 0 rfl) ?_
  refine lv_lconst (v := (0 : Int64)) hx hb dX1_highUnsigned_6 (by decide) ?_
  refine W.lcmp hx hb dX1_highUnsigned_7 ?_
  refine lv_if_ge (tgt := 15) hx hb dX1_highUnsigned_8 (by decide) (fun c1 => ?_) (fun c1 => ?_)
  · have c1 := (lg_cmp_ge p0 (0 : Int64)).mp c1
    refine lv_lconst (v := (0 : Int64)) hx hb dX1_highUnsigned_15 (by decide) ?_
    refine lv_ladd hx hb dX1_highUnsigned_16 ?_
    have hF : f_X1_highUnsigned p0 p1 = ((f_X1_highWithUnsigned p0 p1) + (0 : Int64)) := by unfold f_X1_highUnsigned; rw [if_pos c1]
    exact W.lret (v := ((f_X1_highWithUnsigned p0 p1) + (0 : Int64))) hx hb hr (fun t ht hW => ⟨by rw [hF], ht⟩) (fun _ h => by cases h) dX1_highUnsigned_17
  · have c1 := mt (lg_cmp_ge p0 (0 : Int64)).mpr c1
    refine lv_lload_n hx hb dX1_highUnsigned_11 rfl (lv_at hl 1 rfl) ?_
    refine lv_goto (tgt := 16) hx hb dX1_highUnsigned_12 (by decide) ?_
    refine lv_ladd hx hb dX1_highUnsigned_16 ?_
    have hF : f_X1_highUnsigned p0 p1 = ((f_X1_highWithUnsigned p0 p1) + p1) := by unfold f_X1_highUnsigned; rw [if_neg c1]
    exact W.lret (v := ((f_X1_highWithUnsigned p0 p1) + p1)) hx hb hr (fun t ht hW => ⟨by rw [hF], ht⟩) (fun _ h => by cases h) dX1_highUnsigned_17

def f_X1_quotientUnsigned (p0 : Int64) (p1 : Int64) : Int64 :=
  if p1 = (0 : Int64) then
    (-1 : Int64)
  else if (0 : Int64) ≤ p1 then
    if (f_X1_isBelow (p0 - ((j_lshl ((j_lushr p0 (1 : Int32)) / p1) (1 : Int32)) * p1)) p1) = 0 then
      ((j_lshl ((j_lushr p0 (1 : Int32)) / p1) (1 : Int32)) + (1 : Int64))
    else
      (j_lshl ((j_lushr p0 (1 : Int32)) / p1) (1 : Int32))
  else if (f_X1_isBelow p0 p1) = 0 then
    (1 : Int64)
  else
    (0 : Int64)
set_option maxHeartbeats 4000000 in
set_option maxRecDepth 100000 in
theorem mt_X1_quotientUnsigned (l : Launch) (p0 : Int64) (p1 : Int64) : Met l yX1_quotientUnsigned wsX1_quotientUnsigned ({ frames := 3, cells := 0, slots := 0, locals := 69 }) (fun v _ => v = ([.long p0, .long p1] : List Value).toArray) (k2_QcV (.long (f_X1_quotientUnsigned p0 p1))) 0 0 (fun _ => False) := by
  refine Met.ofW (cc := cX1_quotientUnsigned) (maxL := 6) (ret := (some .long)) (by decide) rfl ?_
  intro p e s m args below meth c s₁ B hml hv
  subst hv
  have hx := B.exec
  have hb := B.bytes
  have hr := B.returns
  have hts0 := atoms_spec (ws := wsX1_quotientUnsigned) B.pre
  have hts := fun (w : Cond) (h : w ∈ lw_G) => hts0 w (List.mem_cons_of_mem _ h)
  have hown : s.vm.findClass RX1 = some m.cls := findClass_of_methodNamed B.named
  have hlocks := B.notSynchronized
  have hl := lv_entry ([.long p0, .long p1]) (n := 6) (Nat.le_of_ble_eq_true rfl)
  rw [lg_entry_eq]
  generalize (lg_sl ([.long p0, .long p1]) ++ List.replicate (6 - (lg_sl ([.long p0, .long p1])).length) Slot.unset).toArray = ls at hl ⊢
  have hl : lv_has ls 6 [(0, .long p0), (2, .long p1)] := hl
  refine lv_lload_n hx hb dX1_quotientUnsigned_0 rfl (lv_at hl 1 rfl) ?_
  refine lv_lconst (v := (0 : Int64)) hx hb dX1_quotientUnsigned_1 (by decide) ?_
  refine W.lcmp hx hb dX1_quotientUnsigned_2 ?_
  refine lv_if_ne (tgt := 10) hx hb dX1_quotientUnsigned_3 (by decide) (fun c1 => ?_) (fun c1 => ?_)
  · have c1 := mt (lg_cmp_eq p1 (0 : Int64)).mpr c1
    refine lv_lload_n hx hb dX1_quotientUnsigned_10 rfl (lv_at hl 1 rfl) ?_
    refine lv_lconst (v := (0 : Int64)) hx hb dX1_quotientUnsigned_11 (by decide) ?_
    refine W.lcmp hx hb dX1_quotientUnsigned_12 ?_
    refine lv_if_ge (tgt := 30) hx hb dX1_quotientUnsigned_13 (by decide) (fun c2 => ?_) (fun c2 => ?_)
    · have c2 := (lg_cmp_ge p1 (0 : Int64)).mp c2
      refine lv_lload_n hx hb dX1_quotientUnsigned_30 rfl (lv_at hl 0 rfl) ?_
      refine lv_iconst (v := (1 : Int32)) hx hb dX1_quotientUnsigned_31 (by decide) ?_
      refine lv_lushr (v := (j_lushr p0 (1 : Int32))) hx hb dX1_quotientUnsigned_32 rfl ?_
      refine lv_lload_n hx hb dX1_quotientUnsigned_33 rfl (lv_at hl 1 rfl) ?_
      refine lv_ldiv hx hb dX1_quotientUnsigned_34 c1 ?_
      refine lv_iconst (v := (1 : Int32)) hx hb dX1_quotientUnsigned_35 (by decide) ?_
      refine lv_lshl (v := (j_lshl ((j_lushr p0 (1 : Int32)) / p1) (1 : Int32))) hx hb dX1_quotientUnsigned_36 rfl ?_
      refine lv_lstore (lv' := [(4, .long (j_lshl ((j_lushr p0 (1 : Int32)) / p1) (1 : Int32))), (0, .long p0), (2, .long p1)]) hx hb dX1_quotientUnsigned_37 hl (by decide) rfl (fun ls hl => ?_)
      refine lv_lload_n hx hb dX1_quotientUnsigned_39 rfl (lv_at hl 1 rfl) ?_
      refine lv_lload hx hb dX1_quotientUnsigned_40 (lv_at hl 0 rfl) ?_
      refine lv_lload_n hx hb dX1_quotientUnsigned_42 rfl (lv_at hl 2 rfl) ?_
      refine lv_lmul hx hb dX1_quotientUnsigned_43 ?_
      refine lv_lsub hx hb dX1_quotientUnsigned_44 ?_
      refine lv_lload_n hx hb dX1_quotientUnsigned_45 rfl (lv_at hl 2 rfl) ?_
      refine W.callV (W.runS (As := [.long (p0 - ((j_lshl ((j_lushr p0 (1 : Int32)) / p1) (1 : Int32)) * p1)), .long p1]) (rest := []) ⟨hx, hb, hml, hown, hts⟩ (mt_X1_isBelow l (p0 - ((j_lshl ((j_lushr p0 (1 : Int32)) / p1) (1 : Int32)) * p1)) p1) (va_cwS 2 hts gX1_7_X1_isBelow rfl rfl rfl (by decide +kernel) ⟨Nat.le_of_ble_eq_true rfl, Nat.le_of_ble_eq_true rfl⟩) preEq rfl rfl hl.1 rfl (lv_room (Nat.le_of_ble_eq_true rfl)) dX1_quotientUnsigned_46 ⟨Nat.le_of_ble_eq_true rfl, Nat.le_of_ble_eq_true rfl⟩) ?_
      refine W.eq (g2 := F0 m 49 ls [.int (f_X1_isBelow (p0 - ((j_lshl ((j_lushr p0 (1 : Int32)) / p1) (1 : Int32)) * p1)) p1)]) rfl ?_
      refine lv_if_eq (tgt := 57) hx hb dX1_quotientUnsigned_49 (by decide) (fun c3 => ?_) (fun c3 => ?_)
      · refine lv_lload hx hb dX1_quotientUnsigned_57 (lv_at hl 0 rfl) ?_
        refine lv_lconst (v := (1 : Int64)) hx hb dX1_quotientUnsigned_59 (by decide) ?_
        refine lv_ladd hx hb dX1_quotientUnsigned_60 ?_
        have hF : f_X1_quotientUnsigned p0 p1 = ((j_lshl ((j_lushr p0 (1 : Int32)) / p1) (1 : Int32)) + (1 : Int64)) := by unfold f_X1_quotientUnsigned; rw [if_neg c1, if_pos c2, if_pos c3]
        exact W.lret (v := ((j_lshl ((j_lushr p0 (1 : Int32)) / p1) (1 : Int32)) + (1 : Int64))) hx hb hr (fun t ht hW => ⟨by rw [hF], ht⟩) (fun _ h => by cases h) dX1_quotientUnsigned_61
      · refine lv_lload hx hb dX1_quotientUnsigned_52 (lv_at hl 0 rfl) ?_
        refine lv_goto (tgt := 61) hx hb dX1_quotientUnsigned_54 (by decide) ?_
        have hF : f_X1_quotientUnsigned p0 p1 = (j_lshl ((j_lushr p0 (1 : Int32)) / p1) (1 : Int32)) := by unfold f_X1_quotientUnsigned; rw [if_neg c1, if_pos c2, if_neg c3]
        exact W.lret (v := (j_lshl ((j_lushr p0 (1 : Int32)) / p1) (1 : Int32))) hx hb hr (fun t ht hW => ⟨by rw [hF], ht⟩) (fun _ h => by cases h) dX1_quotientUnsigned_61
    · have c2 := mt (lg_cmp_ge p1 (0 : Int64)).mpr c2
      refine lv_lload_n hx hb dX1_quotientUnsigned_16 rfl (lv_at hl 0 rfl) ?_
      refine lv_lload_n hx hb dX1_quotientUnsigned_17 rfl (lv_at hl 1 rfl) ?_
      refine W.callV (W.runS (As := [.long p0, .long p1]) (rest := []) ⟨hx, hb, hml, hown, hts⟩ (mt_X1_isBelow l p0 p1) (va_cwS 2 hts gX1_7_X1_isBelow rfl rfl rfl (by decide +kernel) ⟨Nat.le_of_ble_eq_true rfl, Nat.le_of_ble_eq_true rfl⟩) preEq rfl rfl hl.1 rfl (lv_room (Nat.le_of_ble_eq_true rfl)) dX1_quotientUnsigned_18 ⟨Nat.le_of_ble_eq_true rfl, Nat.le_of_ble_eq_true rfl⟩) ?_
      refine W.eq (g2 := F0 m 21 ls [.int (f_X1_isBelow p0 p1)]) rfl ?_
      refine lv_if_eq (tgt := 28) hx hb dX1_quotientUnsigned_21 (by decide) (fun c4 => ?_) (fun c4 => ?_)
      · refine lv_lconst (v := (1 : Int64)) hx hb dX1_quotientUnsigned_28 (by decide) ?_
        have hF : f_X1_quotientUnsigned p0 p1 = (1 : Int64) := by unfold f_X1_quotientUnsigned; rw [if_neg c1, if_neg c2, if_pos c4]
        exact W.lret (v := (1 : Int64)) hx hb hr (fun t ht hW => ⟨by rw [hF], ht⟩) (fun _ h => by cases h) dX1_quotientUnsigned_29
      · refine lv_lconst (v := (0 : Int64)) hx hb dX1_quotientUnsigned_24 (by decide) ?_
        refine lv_goto (tgt := 29) hx hb dX1_quotientUnsigned_25 (by decide) ?_
        have hF : f_X1_quotientUnsigned p0 p1 = (0 : Int64) := by unfold f_X1_quotientUnsigned; rw [if_neg c1, if_neg c2, if_neg c4]
        exact W.lret (v := (0 : Int64)) hx hb hr (fun t ht hW => ⟨by rw [hF], ht⟩) (fun _ h => by cases h) dX1_quotientUnsigned_29
  · have c1 := (lg_cmp_eq p1 (0 : Int64)).mp c1
    refine lv_ldc2 (v := (-1 : Int64)) hx hb hown (hts _ qw_30) dX1_quotientUnsigned_6 ?_
    have hF : f_X1_quotientUnsigned p0 p1 = (-1 : Int64) := by unfold f_X1_quotientUnsigned; rw [if_pos c1]
    exact W.lret (v := (-1 : Int64)) hx hb hr (fun t ht hW => ⟨by rw [hF], ht⟩) (fun _ h => by cases h) dX1_quotientUnsigned_9

def f_X1_restUnsigned (p0 : Int64) (p1 : Int64) : Int64 :=
  (p0 - ((f_X1_quotientUnsigned p0 p1) * p1))
set_option maxHeartbeats 4000000 in
set_option maxRecDepth 100000 in
theorem mt_X1_restUnsigned (l : Launch) (p0 : Int64) (p1 : Int64) : Met l yX1_restUnsigned wsX1_restUnsigned ({ frames := 4, cells := 0, slots := 0, locals := 94 }) (fun v _ => v = ([.long p0, .long p1] : List Value).toArray) (k2_QcV (.long (f_X1_restUnsigned p0 p1))) 0 0 (fun _ => False) := by
  refine Met.ofW (cc := cX1_restUnsigned) (maxL := 4) (ret := (some .long)) (by decide) rfl ?_
  intro p e s m args below meth c s₁ B hml hv
  subst hv
  have hx := B.exec
  have hb := B.bytes
  have hr := B.returns
  have hts0 := atoms_spec (ws := wsX1_restUnsigned) B.pre
  have hts := fun (w : Cond) (h : w ∈ lw_G) => hts0 w (List.mem_cons_of_mem _ h)
  have hown : s.vm.findClass RX1 = some m.cls := findClass_of_methodNamed B.named
  have hlocks := B.notSynchronized
  have hl := lv_entry ([.long p0, .long p1]) (n := 4) (Nat.le_of_ble_eq_true rfl)
  rw [lg_entry_eq]
  generalize (lg_sl ([.long p0, .long p1]) ++ List.replicate (4 - (lg_sl ([.long p0, .long p1])).length) Slot.unset).toArray = ls at hl ⊢
  have hl : lv_has ls 4 [(0, .long p0), (2, .long p1)] := hl
  refine lv_lload_n hx hb dX1_restUnsigned_0 rfl (lv_at hl 0 rfl) ?_
  refine lv_lload_n hx hb dX1_restUnsigned_1 rfl (lv_at hl 0 rfl) ?_
  refine lv_lload_n hx hb dX1_restUnsigned_2 rfl (lv_at hl 1 rfl) ?_
  refine W.callV (W.runS (As := [.long p0, .long p1]) (rest := [.long p0]) ⟨hx, hb, hml, hown, hts⟩ (mt_X1_quotientUnsigned l p0 p1) (va_cwS 2 hts gX1_29_X1_quotientUnsigned rfl rfl rfl (by decide +kernel) ⟨Nat.le_of_ble_eq_true rfl, Nat.le_of_ble_eq_true rfl⟩) preEq rfl rfl hl.1 rfl (lv_room (Nat.le_of_ble_eq_true rfl)) dX1_restUnsigned_3 ⟨Nat.le_of_ble_eq_true rfl, Nat.le_of_ble_eq_true rfl⟩) ?_
  refine W.eq (g2 := F0 m 6 ls [.long (f_X1_quotientUnsigned p0 p1), .long p0]) rfl ?_
  refine lv_lload_n hx hb dX1_restUnsigned_6 rfl (lv_at hl 1 rfl) ?_
  refine lv_lmul hx hb dX1_restUnsigned_7 ?_
  refine lv_lsub hx hb dX1_restUnsigned_8 ?_
  have hF : f_X1_restUnsigned p0 p1 = (p0 - ((f_X1_quotientUnsigned p0 p1) * p1)) := rfl
  exact W.lret (v := (p0 - ((f_X1_quotientUnsigned p0 p1) * p1))) hx hb hr (fun t ht hW => ⟨by rw [hF], ht⟩) (fun _ h => by cases h) dX1_restUnsigned_9

def f_X1_product (p0 : Int32) (p1 : Int64) (p2 : Int64) : Int64 :=
  if p0 = (0 : Int32) then
    (p1 * p2)
  else if p0 = (1 : Int32) then
    (f_J2_multiplyHigh p1 p2)
  else if p0 = (2 : Int32) then
    (f_X1_highWithUnsigned p1 p2)
  else if p0 = (3 : Int32) then
    (f_X1_highUnsigned p1 p2)
  else if p0 = (4 : Int32) then
    if p2 = (0 : Int64) then
      (-1 : Int64)
    else
      (p1 / p2)
  else if p0 = (5 : Int32) then
    (f_X1_quotientUnsigned p1 p2)
  else if p0 = (6 : Int32) then
    if p2 = (0 : Int64) then
      p1
    else
      (p1 - p1 / p2 * p2)
  else
    (f_X1_restUnsigned p1 p2)
set_option maxHeartbeats 4000000 in
set_option maxRecDepth 100000 in
theorem mt_X1_product (l : Launch) (p0 : Int32) (p1 : Int64) (p2 : Int64) : Met l yX1_product wsX1_product ({ frames := 5, cells := 0, slots := 0, locals := 117 }) (fun v _ => v = ([.int p0, .long p1, .long p2] : List Value).toArray) (k2_QcV (.long (f_X1_product p0 p1 p2))) 0 0 (fun _ => False) := by
  refine Met.ofW (cc := cX1_product) (maxL := 5) (ret := (some .long)) (by decide) rfl ?_
  intro p e s m args below meth c s₁ B hml hv
  subst hv
  have hx := B.exec
  have hb := B.bytes
  have hr := B.returns
  have hts0 := atoms_spec (ws := wsX1_product) B.pre
  have hts := fun (w : Cond) (h : w ∈ lw_G) => hts0 w (List.mem_cons_of_mem _ h)
  have hown : s.vm.findClass RX1 = some m.cls := findClass_of_methodNamed B.named
  have hlocks := B.notSynchronized
  have hl := lv_entry ([.int p0, .long p1, .long p2]) (n := 5) (Nat.le_of_ble_eq_true rfl)
  rw [lg_entry_eq]
  generalize (lg_sl ([.int p0, .long p1, .long p2]) ++ List.replicate (5 - (lg_sl ([.int p0, .long p1, .long p2])).length) Slot.unset).toArray = ls at hl ⊢
  have hl : lv_has ls 5 [(0, .int p0), (1, .long p1), (3, .long p2)] := hl
  refine lv_iload_n hx hb dX1_product_0 rfl (lv_at hl 0 rfl) ?_
  by_cases c1 : p0 = (0 : Int32)
  · refine lv_tableIn (tgt := 44) (off := 43) hx hb dX1_product_1 (by rw [c1]; decide) (by rw [c1]; decide) (by rw [c1]; decide +kernel) (by decide) ?_
    refine lv_lload_n hx hb dX1_product_44 rfl (lv_at hl 1 rfl) ?_
    refine lv_lload_n hx hb dX1_product_45 rfl (lv_at hl 2 rfl) ?_
    refine lv_lmul hx hb dX1_product_46 ?_
    have hF : f_X1_product p0 p1 p2 = (p1 * p2) := by unfold f_X1_product; rw [if_pos c1]
    exact W.lret (v := (p1 * p2)) hx hb hr (fun t ht hW => ⟨by rw [hF], ht⟩) (fun _ h => by cases h) dX1_product_47
  · by_cases c2 : p0 = (1 : Int32)
    · refine lv_tableIn (tgt := 48) (off := 47) hx hb dX1_product_1 (by rw [c2]; decide) (by rw [c2]; decide) (by rw [c2]; decide +kernel) (by decide) ?_
      refine lv_lload_n hx hb dX1_product_48 rfl (lv_at hl 1 rfl) ?_
      refine lv_lload_n hx hb dX1_product_49 rfl (lv_at hl 2 rfl) ?_
      refine W.callV (W.runS (As := [.long p1, .long p2]) (rest := []) ⟨hx, hb, hml, hown, hts⟩ (mt_J2_multiplyHigh l p1 p2) (va_cwS 2 hts gX1_15_J2_multiplyHigh rfl rfl rfl (by decide +kernel) ⟨Nat.le_of_ble_eq_true rfl, Nat.le_of_ble_eq_true rfl⟩) preEq rfl rfl hl.1 rfl (lv_room (Nat.le_of_ble_eq_true rfl)) dX1_product_50 ⟨Nat.le_of_ble_eq_true rfl, Nat.le_of_ble_eq_true rfl⟩) ?_
      refine W.eq (g2 := F0 m 53 ls [.long (f_J2_multiplyHigh p1 p2)]) rfl ?_
      have hF : f_X1_product p0 p1 p2 = (f_J2_multiplyHigh p1 p2) := by unfold f_X1_product; rw [if_neg c1, if_pos c2]
      exact W.lret (v := (f_J2_multiplyHigh p1 p2)) hx hb hr (fun t ht hW => ⟨by rw [hF], ht⟩) (fun _ h => by cases h) dX1_product_53
    · by_cases c3 : p0 = (2 : Int32)
      · refine lv_tableIn (tgt := 54) (off := 53) hx hb dX1_product_1 (by rw [c3]; decide) (by rw [c3]; decide) (by rw [c3]; decide +kernel) (by decide) ?_
        refine lv_lload_n hx hb dX1_product_54 rfl (lv_at hl 1 rfl) ?_
        refine lv_lload_n hx hb dX1_product_55 rfl (lv_at hl 2 rfl) ?_
        refine W.callV (W.runS (As := [.long p1, .long p2]) (rest := []) ⟨hx, hb, hml, hown, hts⟩ (mt_X1_highWithUnsigned l p1 p2) (va_cwS 2 hts gX1_21_X1_highWithUnsigned rfl rfl rfl (by decide +kernel) ⟨Nat.le_of_ble_eq_true rfl, Nat.le_of_ble_eq_true rfl⟩) preEq rfl rfl hl.1 rfl (lv_room (Nat.le_of_ble_eq_true rfl)) dX1_product_56 ⟨Nat.le_of_ble_eq_true rfl, Nat.le_of_ble_eq_true rfl⟩) ?_
        refine W.eq (g2 := F0 m 59 ls [.long (f_X1_highWithUnsigned p1 p2)]) rfl ?_
        have hF : f_X1_product p0 p1 p2 = (f_X1_highWithUnsigned p1 p2) := by unfold f_X1_product; rw [if_neg c1, if_neg c2, if_pos c3]
        exact W.lret (v := (f_X1_highWithUnsigned p1 p2)) hx hb hr (fun t ht hW => ⟨by rw [hF], ht⟩) (fun _ h => by cases h) dX1_product_59
      · by_cases c4 : p0 = (3 : Int32)
        · refine lv_tableIn (tgt := 60) (off := 59) hx hb dX1_product_1 (by rw [c4]; decide) (by rw [c4]; decide) (by rw [c4]; decide +kernel) (by decide) ?_
          refine lv_lload_n hx hb dX1_product_60 rfl (lv_at hl 1 rfl) ?_
          refine lv_lload_n hx hb dX1_product_61 rfl (lv_at hl 2 rfl) ?_
          refine W.callV (W.runS (As := [.long p1, .long p2]) (rest := []) ⟨hx, hb, hml, hown, hts⟩ (mt_X1_highUnsigned l p1 p2) (va_cwS 2 hts gX1_24_X1_highUnsigned rfl rfl rfl (by decide +kernel) ⟨Nat.le_of_ble_eq_true rfl, Nat.le_of_ble_eq_true rfl⟩) preEq rfl rfl hl.1 rfl (lv_room (Nat.le_of_ble_eq_true rfl)) dX1_product_62 ⟨Nat.le_of_ble_eq_true rfl, Nat.le_of_ble_eq_true rfl⟩) ?_
          refine W.eq (g2 := F0 m 65 ls [.long (f_X1_highUnsigned p1 p2)]) rfl ?_
          have hF : f_X1_product p0 p1 p2 = (f_X1_highUnsigned p1 p2) := by unfold f_X1_product; rw [if_neg c1, if_neg c2, if_neg c3, if_pos c4]
          exact W.lret (v := (f_X1_highUnsigned p1 p2)) hx hb hr (fun t ht hW => ⟨by rw [hF], ht⟩) (fun _ h => by cases h) dX1_product_65
        · by_cases c5 : p0 = (4 : Int32)
          · refine lv_tableIn (tgt := 66) (off := 65) hx hb dX1_product_1 (by rw [c5]; decide) (by rw [c5]; decide) (by rw [c5]; decide +kernel) (by decide) ?_
            refine lv_lload_n hx hb dX1_product_66 rfl (lv_at hl 2 rfl) ?_
            refine lv_lconst (v := (0 : Int64)) hx hb dX1_product_67 (by decide) ?_
            refine W.lcmp hx hb dX1_product_68 ?_
            refine lv_if_ne (tgt := 78) hx hb dX1_product_69 (by decide) (fun c6 => ?_) (fun c6 => ?_)
            · have c6 := mt (lg_cmp_eq p2 (0 : Int64)).mpr c6
              refine lv_lload_n hx hb dX1_product_78 rfl (lv_at hl 1 rfl) ?_
              refine lv_lload_n hx hb dX1_product_79 rfl (lv_at hl 2 rfl) ?_
              refine lv_ldiv hx hb dX1_product_80 c6 ?_
              have hF : f_X1_product p0 p1 p2 = (p1 / p2) := by unfold f_X1_product; rw [if_neg c1, if_neg c2, if_neg c3, if_neg c4, if_pos c5, if_neg c6]
              exact W.lret (v := (p1 / p2)) hx hb hr (fun t ht hW => ⟨by rw [hF], ht⟩) (fun _ h => by cases h) dX1_product_81
            · have c6 := (lg_cmp_eq p2 (0 : Int64)).mp c6
              refine lv_ldc2 (v := (-1 : Int64)) hx hb hown (hts _ qw_30) dX1_product_72 ?_
              refine lv_goto (tgt := 81) hx hb dX1_product_75 (by decide) ?_
              have hF : f_X1_product p0 p1 p2 = (-1 : Int64) := by unfold f_X1_product; rw [if_neg c1, if_neg c2, if_neg c3, if_neg c4, if_pos c5, if_pos c6]
              exact W.lret (v := (-1 : Int64)) hx hb hr (fun t ht hW => ⟨by rw [hF], ht⟩) (fun _ h => by cases h) dX1_product_81
          · by_cases c7 : p0 = (5 : Int32)
            · refine lv_tableIn (tgt := 82) (off := 81) hx hb dX1_product_1 (by rw [c7]; decide) (by rw [c7]; decide) (by rw [c7]; decide +kernel) (by decide) ?_
              refine lv_lload_n hx hb dX1_product_82 rfl (lv_at hl 1 rfl) ?_
              refine lv_lload_n hx hb dX1_product_83 rfl (lv_at hl 2 rfl) ?_
              refine W.callV (W.runS (As := [.long p1, .long p2]) (rest := []) ⟨hx, hb, hml, hown, hts⟩ (mt_X1_quotientUnsigned l p1 p2) (va_cwS 2 hts gX1_29_X1_quotientUnsigned rfl rfl rfl (by decide +kernel) ⟨Nat.le_of_ble_eq_true rfl, Nat.le_of_ble_eq_true rfl⟩) preEq rfl rfl hl.1 rfl (lv_room (Nat.le_of_ble_eq_true rfl)) dX1_product_84 ⟨Nat.le_of_ble_eq_true rfl, Nat.le_of_ble_eq_true rfl⟩) ?_
              refine W.eq (g2 := F0 m 87 ls [.long (f_X1_quotientUnsigned p1 p2)]) rfl ?_
              have hF : f_X1_product p0 p1 p2 = (f_X1_quotientUnsigned p1 p2) := by unfold f_X1_product; rw [if_neg c1, if_neg c2, if_neg c3, if_neg c4, if_neg c5, if_pos c7]
              exact W.lret (v := (f_X1_quotientUnsigned p1 p2)) hx hb hr (fun t ht hW => ⟨by rw [hF], ht⟩) (fun _ h => by cases h) dX1_product_87
            · by_cases c8 : p0 = (6 : Int32)
              · refine lv_tableIn (tgt := 88) (off := 87) hx hb dX1_product_1 (by rw [c8]; decide) (by rw [c8]; decide) (by rw [c8]; decide +kernel) (by decide) ?_
                refine lv_lload_n hx hb dX1_product_88 rfl (lv_at hl 2 rfl) ?_
                refine lv_lconst (v := (0 : Int64)) hx hb dX1_product_89 (by decide) ?_
                refine W.lcmp hx hb dX1_product_90 ?_
                refine lv_if_ne (tgt := 98) hx hb dX1_product_91 (by decide) (fun c9 => ?_) (fun c9 => ?_)
                · have c9 := mt (lg_cmp_eq p2 (0 : Int64)).mpr c9
                  refine lv_lload_n hx hb dX1_product_98 rfl (lv_at hl 1 rfl) ?_
                  refine lv_lload_n hx hb dX1_product_99 rfl (lv_at hl 2 rfl) ?_
                  refine lv_lrem hx hb dX1_product_100 c9 ?_
                  have hF : f_X1_product p0 p1 p2 = (p1 - p1 / p2 * p2) := by unfold f_X1_product; rw [if_neg c1, if_neg c2, if_neg c3, if_neg c4, if_neg c5, if_neg c7, if_pos c8, if_neg c9]
                  exact W.lret (v := (p1 - p1 / p2 * p2)) hx hb hr (fun t ht hW => ⟨by rw [hF], ht⟩) (fun _ h => by cases h) dX1_product_101
                · have c9 := (lg_cmp_eq p2 (0 : Int64)).mp c9
                  refine lv_lload_n hx hb dX1_product_94 rfl (lv_at hl 1 rfl) ?_
                  refine lv_goto (tgt := 101) hx hb dX1_product_95 (by decide) ?_
                  have hF : f_X1_product p0 p1 p2 = p1 := by unfold f_X1_product; rw [if_neg c1, if_neg c2, if_neg c3, if_neg c4, if_neg c5, if_neg c7, if_pos c8, if_pos c9]
                  exact W.lret (v := p1) hx hb hr (fun t ht hW => ⟨by rw [hF], ht⟩) (fun _ h => by cases h) dX1_product_101
              · refine lv_tableOut (tgt := 102) hx hb dX1_product_1 (by have q0 := lv_neT (k := (0 : Int32)) (a := 0) c1 (by decide); have q1 := lv_neT (k := (1 : Int32)) (a := 1) c2 (by decide); have q2 := lv_neT (k := (2 : Int32)) (a := 2) c3 (by decide); have q3 := lv_neT (k := (3 : Int32)) (a := 3) c4 (by decide); have q4 := lv_neT (k := (4 : Int32)) (a := 4) c5 (by decide); have q5 := lv_neT (k := (5 : Int32)) (a := 5) c7 (by decide); have q6 := lv_neT (k := (6 : Int32)) (a := 6) c8 (by decide); omega) (by decide) ?_
                refine lv_lload_n hx hb dX1_product_102 rfl (lv_at hl 1 rfl) ?_
                refine lv_lload_n hx hb dX1_product_103 rfl (lv_at hl 2 rfl) ?_
                refine W.callV (W.runS (As := [.long p1, .long p2]) (rest := []) ⟨hx, hb, hml, hown, hts⟩ (mt_X1_restUnsigned l p1 p2) (va_cwS 2 hts gX1_32_X1_restUnsigned rfl rfl rfl (by decide +kernel) ⟨Nat.le_of_ble_eq_true rfl, Nat.le_of_ble_eq_true rfl⟩) preEq rfl rfl hl.1 rfl (lv_room (Nat.le_of_ble_eq_true rfl)) dX1_product_104 ⟨Nat.le_of_ble_eq_true rfl, Nat.le_of_ble_eq_true rfl⟩) ?_
                refine W.eq (g2 := F0 m 107 ls [.long (f_X1_restUnsigned p1 p2)]) rfl ?_
                have hF : f_X1_product p0 p1 p2 = (f_X1_restUnsigned p1 p2) := by unfold f_X1_product; rw [if_neg c1, if_neg c2, if_neg c3, if_neg c4, if_neg c5, if_neg c7, if_neg c8]
                exact W.lret (v := (f_X1_restUnsigned p1 p2)) hx hb hr (fun t ht hW => ⟨by rw [hF], ht⟩) (fun _ h => by cases h) dX1_product_107
