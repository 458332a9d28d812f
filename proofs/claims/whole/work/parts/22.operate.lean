def f_X3_operateLongWithImmediate (u : ScT) (p0 : Int32) : Int32 × ScT :=
  if (f_X2_f p0) = (5 : Int32) then
    if (f_X2_aboveLongShift p0) = (16 : Int32) then
      ((f_X3_give u p0 (f_X1_shiftRightWithSign (f_X3_x u p0) (f_X2_immediateI p0).toInt64)).1, (f_X3_give u p0 (f_X1_shiftRightWithSign (f_X3_x u p0) (f_X2_immediateI p0).toInt64)).2)
    else if (f_X2_f p0) = (1 : Int32) then
      if (f_X2_aboveLongShift p0) = 0 then
        ((f_X3_give u p0 (f_X1_plain (f_X2_f p0) (f_X3_x u p0) (f_X2_immediateI p0).toInt64)).1, (f_X3_give u p0 (f_X1_plain (f_X2_f p0) (f_X3_x u p0) (f_X2_immediateI p0).toInt64)).2)
      else
        ((-1 : Int32), u)
    else if (f_X2_aboveLongShift p0) = 0 then
      ((f_X3_give u p0 (f_X1_plain (f_X2_f p0) (f_X3_x u p0) (f_X2_immediateI p0).toInt64)).1, (f_X3_give u p0 (f_X1_plain (f_X2_f p0) (f_X3_x u p0) (f_X2_immediateI p0).toInt64)).2)
    else
      ((-1 : Int32), u)
  else if (f_X2_f p0) = (1 : Int32) then
    if (f_X2_aboveLongShift p0) = 0 then
      ((f_X3_give u p0 (f_X1_plain (f_X2_f p0) (f_X3_x u p0) (f_X2_immediateI p0).toInt64)).1, (f_X3_give u p0 (f_X1_plain (f_X2_f p0) (f_X3_x u p0) (f_X2_immediateI p0).toInt64)).2)
    else
      ((-1 : Int32), u)
  else
    ((f_X3_give u p0 (f_X1_plain (f_X2_f p0) (f_X3_x u p0) (f_X2_immediateI p0).toInt64)).1, (f_X3_give u p0 (f_X1_plain (f_X2_f p0) (f_X3_x u p0) (f_X2_immediateI p0).toInt64)).2)
set_option maxHeartbeats 4000000 in
set_option maxRecDepth 100000 in
theorem mt_X3_operateLongWithImmediate (l : Launch) (dC : Nat → ClassId) (dI : Nat → Nat → Nat) (h0 h1 : Nat) (cA : ClassId) (sz : Nat) (u : ScT) (p0 : Int32) : Met l yX3_operateLongWithImmediate wsX3_operateLongWithImmediate ({ frames := 4, cells := 0, slots := 0, locals := 93 }) (wr_P [.ref h0, .int p0] (dC, dI) vwCl (Wc h0 h1 cA u) [(cA, .long)] sz) (va_Qi (fun r v => r = (f_X3_operateLongWithImmediate u p0).1 ∧ v = (f_X3_operateLongWithImmediate u p0).2) (wr_B (dC, dI) vwCl [(cA, .long)] (va_A (Wc h0 h1 cA u) sz) (Wc h0 h1 cA)) (va_A (Wc h0 h1 cA u) sz)) 0 0 (va_A (Wc h0 h1 cA u) sz) := by
  refine Met.ofW (cc := cX3_operateLongWithImmediate) (maxL := 8) (ret := (some .int)) (by decide) rfl ?_
  intro p e s m args below meth c s₁ B hml hv
  obtain ⟨rfl, hsz, hP, hK, hD0⟩ := hv
  have hx := B.exec
  have hb := B.bytes
  have hr := B.returns
  have hts0 := atoms_spec (ws := wsX3_operateLongWithImmediate) B.pre
  have hts := fun (w : Cond) (h : w ∈ lw_G) => hts0 w (List.mem_cons_of_mem _ h)
  have hown : s.vm.findClass RX3 = some m.cls := findClass_of_methodNamed B.named
  have hlocks := B.notSynchronized
  subst hsz
  have hD := hD0.self (sz := s.heap.size)
  generalize hAe : va_A (Wc h0 h1 cA u) s.heap.size = A at hD ⊢
  have hA : ∀ q : Nat, s.heap.size ≤ q → A q := fun q h => by rw [← hAe]; exact Or.inr h
  have hS : va_S A s.heap s.heap [] := va_S.rf
  have hl := lv_entry ([.ref h0, .int p0]) (n := 8) (Nat.le_of_ble_eq_true rfl)
  rw [lg_entry_eq]
  generalize (lg_sl ([.ref h0, .int p0]) ++ List.replicate (8 - (lg_sl ([.ref h0, .int p0])).length) Slot.unset).toArray = ls at hl ⊢
  have hl : lv_has ls 8 [(0, .ref h0), (1, .int p0)] := hl
  refine lv_iload_n hx hb dX3_operateLongWithImmediate_0 rfl (lv_at hl 1 rfl) ?_
  refine W.callV (W.runS (As := [.int p0]) (rest := []) ⟨hx, hb, hml, hown, hts⟩ (mt_X2_f l p0) (va_cwS 1 hts gX3_157_X2_f rfl rfl rfl (by decide +kernel) ⟨Nat.le_of_ble_eq_true rfl, Nat.le_of_ble_eq_true rfl⟩) preEq rfl rfl hl.1 rfl (lv_room (Nat.le_of_ble_eq_true rfl)) dX3_operateLongWithImmediate_1 ⟨Nat.le_of_ble_eq_true rfl, Nat.le_of_ble_eq_true rfl⟩) ?_
  refine W.eq (g2 := F0 m 4 ls [.int (f_X2_f p0)]) rfl ?_
  refine lv_istore_n (lv' := [(2, .int (f_X2_f p0)), (0, .ref h0), (1, .int p0)]) hx hb dX3_operateLongWithImmediate_4 rfl hl (by decide) rfl (fun ls hl => ?_)
  refine lv_iload_n hx hb dX3_operateLongWithImmediate_5 rfl (lv_at hl 2 rfl) ?_
  refine W.callV (W.runS (As := [.int p0]) (rest := []) ⟨hx, hb, hml, hown, hts⟩ (mt_X2_aboveLongShift l p0) (va_cwS 1 hts gX3_175_X2_aboveLongShift rfl rfl rfl (by decide +kernel) ⟨Nat.le_of_ble_eq_true rfl, Nat.le_of_ble_eq_true rfl⟩) preEq rfl rfl hl.1 rfl (lv_room (Nat.le_of_ble_eq_true rfl)) dX3_operateLongWithImmediate_6 ⟨Nat.le_of_ble_eq_true rfl, Nat.le_of_ble_eq_true rfl⟩) ?_
  refine W.eq (g2 := F0 m 9 ls [.int (f_X2_aboveLongShift p0)]) rfl ?_
  refine lv_istore_n (lv' := [(3, .int (f_X2_aboveLongShift p0)), (2, .int (f_X2_f p0)), (0, .ref h0), (1, .int p0)]) hx hb dX3_operateLongWithImmediate_9 rfl hl (by decide) rfl (fun ls hl => ?_)
  refine lv_aload_n hx hb dX3_operateLongWithImmediate_10 rfl (lv_at hl 2 rfl) ?_
  refine lv_iload_n hx hb dX3_operateLongWithImmediate_11 rfl (lv_at hl 3 rfl) ?_
  refine W.callV (W.runV (As := [.int p0]) (rest := []) ⟨hx, hb, hml, hown, hts⟩ (mt_X3_x l dC dI h0 h1 cA u p0) (cwV 1 hts gX3_101_X3_x rfl rfl rfl (by decide +kernel) ⟨Nat.le_of_ble_eq_true rfl, Nat.le_of_ble_eq_true rfl⟩) (rd_V hK hP (ci := 0) (q0 := 0) rfl rfl rfl) rfl rfl hl.1 rfl (lv_room (Nat.le_of_ble_eq_true rfl)) dX3_operateLongWithImmediate_12 ⟨Nat.le_of_ble_eq_true rfl, Nat.le_of_ble_eq_true rfl⟩) ?_
  refine W.eq (g2 := F0 m 15 ls [.long (f_X3_x u p0)]) rfl ?_
  refine lv_lstore (lv' := [(4, .long (f_X3_x u p0)), (3, .int (f_X2_aboveLongShift p0)), (2, .int (f_X2_f p0)), (0, .ref h0), (1, .int p0)]) hx hb dX3_operateLongWithImmediate_15 hl (by decide) rfl (fun ls hl => ?_)
  refine lv_iload_n hx hb dX3_operateLongWithImmediate_17 rfl (lv_at hl 4 rfl) ?_
  refine W.callV (W.runS (As := [.int p0]) (rest := []) ⟨hx, hb, hml, hown, hts⟩ (mt_X2_immediateI l p0) (va_cwS 1 hts gX3_160_X2_immediateI rfl rfl rfl (by decide +kernel) ⟨Nat.le_of_ble_eq_true rfl, Nat.le_of_ble_eq_true rfl⟩) preEq rfl rfl hl.1 rfl (lv_room (Nat.le_of_ble_eq_true rfl)) dX3_operateLongWithImmediate_18 ⟨Nat.le_of_ble_eq_true rfl, Nat.le_of_ble_eq_true rfl⟩) ?_
  refine W.eq (g2 := F0 m 21 ls [.int (f_X2_immediateI p0)]) rfl ?_
  refine lv_i2l (v := (f_X2_immediateI p0).toInt64) hx hb dX3_operateLongWithImmediate_21 rfl ?_
  refine lv_lstore (lv' := [(6, .long (f_X2_immediateI p0).toInt64), (4, .long (f_X3_x u p0)), (3, .int (f_X2_aboveLongShift p0)), (2, .int (f_X2_f p0)), (0, .ref h0), (1, .int p0)]) hx hb dX3_operateLongWithImmediate_22 hl (by decide) rfl (fun ls hl => ?_)
  refine lv_iload_n hx hb dX3_operateLongWithImmediate_24 rfl (lv_at hl 3 rfl) ?_
  refine lv_iconst (v := (5 : Int32)) hx hb dX3_operateLongWithImmediate_25 (by decide) ?_
  refine lv_icmp_ne (tgt := 48) hx hb dX3_operateLongWithImmediate_26 (by decide) (fun c1 => ?_) (fun c1 => ?_)
  · refine lv_iload_n hx hb dX3_operateLongWithImmediate_48 rfl (lv_at hl 3 rfl) ?_
    refine lv_iconst (v := (1 : Int32)) hx hb dX3_operateLongWithImmediate_49 (by decide) ?_
    refine lv_icmp_eq (tgt := 58) hx hb dX3_operateLongWithImmediate_50 (by decide) (fun c2 => ?_) (fun c2 => ?_)
    · refine lv_iload_n hx hb dX3_operateLongWithImmediate_58 rfl (lv_at hl 2 rfl) ?_
      refine lv_if_eq (tgt := 64) hx hb dX3_operateLongWithImmediate_59 (by decide) (fun c3 => ?_) (fun c3 => ?_)
      · refine lv_aload_n hx hb dX3_operateLongWithImmediate_64 rfl (lv_at hl 4 rfl) ?_
        refine lv_iload_n hx hb dX3_operateLongWithImmediate_65 rfl (lv_at hl 5 rfl) ?_
        refine lv_iload_n hx hb dX3_operateLongWithImmediate_66 rfl (lv_at hl 3 rfl) ?_
        refine lv_lload hx hb dX3_operateLongWithImmediate_67 (lv_at hl 1 rfl) ?_
        refine lv_lload hx hb dX3_operateLongWithImmediate_69 (lv_at hl 0 rfl) ?_
        refine W.callV (W.runS (As := [.int (f_X2_f p0), .long (f_X3_x u p0), .long (f_X2_immediateI p0).toInt64]) (rest := [.int p0, .ref h0]) ⟨hx, hb, hml, hown, hts⟩ (mt_X1_plain l (f_X2_f p0) (f_X3_x u p0) (f_X2_immediateI p0).toInt64) (va_cwS 3 hts gX3_182_X1_plain rfl rfl rfl (by decide +kernel) ⟨Nat.le_of_ble_eq_true rfl, Nat.le_of_ble_eq_true rfl⟩) preEq rfl rfl hl.1 rfl (lv_room (Nat.le_of_ble_eq_true rfl)) dX3_operateLongWithImmediate_71 ⟨Nat.le_of_ble_eq_true rfl, Nat.le_of_ble_eq_true rfl⟩) ?_
        refine W.eq (g2 := F0 m 74 ls [.long (f_X1_plain (f_X2_f p0) (f_X3_x u p0) (f_X2_immediateI p0).toInt64), .int p0, .ref h0]) rfl ?_
        refine wr_calli (wr := []) (va_runV (As := [.int p0, .long (f_X1_plain (f_X2_f p0) (f_X3_x u p0) (f_X2_immediateI p0).toInt64)]) (rest := []) ⟨hx, hb, hml, hown, hts⟩ (mt_X3_give l dC dI h0 h1 cA s.heap.size u p0 (f_X1_plain (f_X2_f p0) (f_X3_x u p0) (f_X2_immediateI p0).toInt64)) (cwV 2 hts gX3_55_X3_give rfl rfl rfl (by decide +kernel) ⟨Nat.le_of_ble_eq_true rfl, Nat.le_of_ble_eq_true rfl⟩) (wr_V hK hP hD (ci := 0) (q0 := 0) rfl rfl rfl) rfl rfl hl.1 rfl (lv_room (Nat.le_of_ble_eq_true rfl)) dX3_operateLongWithImmediate_74 ⟨Nat.le_of_ble_eq_true rfl, Nat.le_of_ble_eq_true rfl⟩) hS hP hD hA [0, 1] [] rfl rfl (by decide) (by decide) (fun r_ v_ H locs hw hP hD hS => ?_)
        obtain ⟨rfl, rfl⟩ := hw
        refine W.eq (g2 := F0 m 77 ls [.int (f_X3_give u p0 (f_X1_plain (f_X2_f p0) (f_X3_x u p0) (f_X2_immediateI p0).toInt64)).1]) rfl ?_
        have hP : va_P (dC, dI) vwCl (Wc h0 h1 cA (f_X3_give u p0 (f_X1_plain (f_X2_f p0) (f_X3_x u p0) (f_X2_immediateI p0).toInt64)).2) H := hP
        have hD : va_D A (Wc h0 h1 cA (f_X3_give u p0 (f_X1_plain (f_X2_f p0) (f_X3_x u p0) (f_X2_immediateI p0).toInt64)).2) := hD
        have hF : f_X3_operateLongWithImmediate u p0 = ((f_X3_give u p0 (f_X1_plain (f_X2_f p0) (f_X3_x u p0) (f_X2_immediateI p0).toInt64)).1, (f_X3_give u p0 (f_X1_plain (f_X2_f p0) (f_X3_x u p0) (f_X2_immediateI p0).toInt64)).2) := by unfold f_X3_operateLongWithImmediate; rw [if_neg c1, if_pos c2, if_pos c3]
        exact W.iret (v := (f_X3_give u p0 (f_X1_plain (f_X2_f p0) (f_X3_x u p0) (f_X2_immediateI p0).toInt64)).1) hx hb hr (fun t ht hW => ⟨⟨(f_X3_give u p0 (f_X1_plain (f_X2_f p0) (f_X3_x u p0) (f_X2_immediateI p0).toInt64)).1, (f_X3_give u p0 (f_X1_plain (f_X2_f p0) (f_X3_x u p0) (f_X2_immediateI p0).toInt64)).2, rfl, ⟨(congrArg Prod.fst hF).symm, (congrArg Prod.snd hF).symm⟩, by rw [ht]; exact hP, va_K.moved hW.alike hK, hD⟩, hS.F ht⟩) hS.2.2 dX3_operateLongWithImmediate_77
      · refine lv_iconst (v := (-1 : Int32)) hx hb dX3_operateLongWithImmediate_62 (by decide) ?_
        have hF : f_X3_operateLongWithImmediate u p0 = ((-1 : Int32), u) := by unfold f_X3_operateLongWithImmediate; rw [if_neg c1, if_pos c2, if_neg c3]
        exact W.iret (v := (-1 : Int32)) hx hb hr (fun t ht hW => ⟨⟨(-1 : Int32), u, rfl, ⟨(congrArg Prod.fst hF).symm, (congrArg Prod.snd hF).symm⟩, by rw [ht]; exact hP, va_K.moved hW.alike hK, hD⟩, hS.F ht⟩) hS.2.2 dX3_operateLongWithImmediate_63
    · refine lv_iload_n hx hb dX3_operateLongWithImmediate_53 rfl (lv_at hl 3 rfl) ?_
      refine lv_iconst (v := (5 : Int32)) hx hb dX3_operateLongWithImmediate_54 (by decide) ?_
      refine lv_icmp_ne (tgt := 64) hx hb dX3_operateLongWithImmediate_55 (by decide) (fun _ => ?_) (fun c_ => absurd c_ c1)
      refine lv_aload_n hx hb dX3_operateLongWithImmediate_64 rfl (lv_at hl 4 rfl) ?_
      refine lv_iload_n hx hb dX3_operateLongWithImmediate_65 rfl (lv_at hl 5 rfl) ?_
      refine lv_iload_n hx hb dX3_operateLongWithImmediate_66 rfl (lv_at hl 3 rfl) ?_
      refine lv_lload hx hb dX3_operateLongWithImmediate_67 (lv_at hl 1 rfl) ?_
      refine lv_lload hx hb dX3_operateLongWithImmediate_69 (lv_at hl 0 rfl) ?_
      refine W.callV (W.runS (As := [.int (f_X2_f p0), .long (f_X3_x u p0), .long (f_X2_immediateI p0).toInt64]) (rest := [.int p0, .ref h0]) ⟨hx, hb, hml, hown, hts⟩ (mt_X1_plain l (f_X2_f p0) (f_X3_x u p0) (f_X2_immediateI p0).toInt64) (va_cwS 3 hts gX3_182_X1_plain rfl rfl rfl (by decide +kernel) ⟨Nat.le_of_ble_eq_true rfl, Nat.le_of_ble_eq_true rfl⟩) preEq rfl rfl hl.1 rfl (lv_room (Nat.le_of_ble_eq_true rfl)) dX3_operateLongWithImmediate_71 ⟨Nat.le_of_ble_eq_true rfl, Nat.le_of_ble_eq_true rfl⟩) ?_
      refine W.eq (g2 := F0 m 74 ls [.long (f_X1_plain (f_X2_f p0) (f_X3_x u p0) (f_X2_immediateI p0).toInt64), .int p0, .ref h0]) rfl ?_
      refine wr_calli (wr := []) (va_runV (As := [.int p0, .long (f_X1_plain (f_X2_f p0) (f_X3_x u p0) (f_X2_immediateI p0).toInt64)]) (rest := []) ⟨hx, hb, hml, hown, hts⟩ (mt_X3_give l dC dI h0 h1 cA s.heap.size u p0 (f_X1_plain (f_X2_f p0) (f_X3_x u p0) (f_X2_immediateI p0).toInt64)) (cwV 2 hts gX3_55_X3_give rfl rfl rfl (by decide +kernel) ⟨Nat.le_of_ble_eq_true rfl, Nat.le_of_ble_eq_true rfl⟩) (wr_V hK hP hD (ci := 0) (q0 := 0) rfl rfl rfl) rfl rfl hl.1 rfl (lv_room (Nat.le_of_ble_eq_true rfl)) dX3_operateLongWithImmediate_74 ⟨Nat.le_of_ble_eq_true rfl, Nat.le_of_ble_eq_true rfl⟩) hS hP hD hA [0, 1] [] rfl rfl (by decide) (by decide) (fun r_ v_ H locs hw hP hD hS => ?_)
      obtain ⟨rfl, rfl⟩ := hw
      refine W.eq (g2 := F0 m 77 ls [.int (f_X3_give u p0 (f_X1_plain (f_X2_f p0) (f_X3_x u p0) (f_X2_immediateI p0).toInt64)).1]) rfl ?_
      have hP : va_P (dC, dI) vwCl (Wc h0 h1 cA (f_X3_give u p0 (f_X1_plain (f_X2_f p0) (f_X3_x u p0) (f_X2_immediateI p0).toInt64)).2) H := hP
      have hD : va_D A (Wc h0 h1 cA (f_X3_give u p0 (f_X1_plain (f_X2_f p0) (f_X3_x u p0) (f_X2_immediateI p0).toInt64)).2) := hD
      have hF : f_X3_operateLongWithImmediate u p0 = ((f_X3_give u p0 (f_X1_plain (f_X2_f p0) (f_X3_x u p0) (f_X2_immediateI p0).toInt64)).1, (f_X3_give u p0 (f_X1_plain (f_X2_f p0) (f_X3_x u p0) (f_X2_immediateI p0).toInt64)).2) := by unfold f_X3_operateLongWithImmediate; rw [if_neg c1, if_neg c2]
      exact W.iret (v := (f_X3_give u p0 (f_X1_plain (f_X2_f p0) (f_X3_x u p0) (f_X2_immediateI p0).toInt64)).1) hx hb hr (fun t ht hW => ⟨⟨(f_X3_give u p0 (f_X1_plain (f_X2_f p0) (f_X3_x u p0) (f_X2_immediateI p0).toInt64)).1, (f_X3_give u p0 (f_X1_plain (f_X2_f p0) (f_X3_x u p0) (f_X2_immediateI p0).toInt64)).2, rfl, ⟨(congrArg Prod.fst hF).symm, (congrArg Prod.snd hF).symm⟩, by rw [ht]; exact hP, va_K.moved hW.alike hK, hD⟩, hS.F ht⟩) hS.2.2 dX3_operateLongWithImmediate_77
  · refine lv_iload_n hx hb dX3_operateLongWithImmediate_29 rfl (lv_at hl 2 rfl) ?_
    refine lv_bipush (v := (16 : Int32)) hx hb dX3_operateLongWithImmediate_30 (by decide) ?_
    refine lv_icmp_ne (tgt := 48) hx hb dX3_operateLongWithImmediate_32 (by decide) (fun c4 => ?_) (fun c4 => ?_)
    · refine lv_iload_n hx hb dX3_operateLongWithImmediate_48 rfl (lv_at hl 3 rfl) ?_
      refine lv_iconst (v := (1 : Int32)) hx hb dX3_operateLongWithImmediate_49 (by decide) ?_
      refine lv_icmp_eq (tgt := 58) hx hb dX3_operateLongWithImmediate_50 (by decide) (fun c5 => ?_) (fun c5 => ?_)
      · refine lv_iload_n hx hb dX3_operateLongWithImmediate_58 rfl (lv_at hl 2 rfl) ?_
        refine lv_if_eq (tgt := 64) hx hb dX3_operateLongWithImmediate_59 (by decide) (fun c6 => ?_) (fun c6 => ?_)
        · refine lv_aload_n hx hb dX3_operateLongWithImmediate_64 rfl (lv_at hl 4 rfl) ?_
          refine lv_iload_n hx hb dX3_operateLongWithImmediate_65 rfl (lv_at hl 5 rfl) ?_
          refine lv_iload_n hx hb dX3_operateLongWithImmediate_66 rfl (lv_at hl 3 rfl) ?_
          refine lv_lload hx hb dX3_operateLongWithImmediate_67 (lv_at hl 1 rfl) ?_
          refine lv_lload hx hb dX3_operateLongWithImmediate_69 (lv_at hl 0 rfl) ?_
          refine W.callV (W.runS (As := [.int (f_X2_f p0), .long (f_X3_x u p0), .long (f_X2_immediateI p0).toInt64]) (rest := [.int p0, .ref h0]) ⟨hx, hb, hml, hown, hts⟩ (mt_X1_plain l (f_X2_f p0) (f_X3_x u p0) (f_X2_immediateI p0).toInt64) (va_cwS 3 hts gX3_182_X1_plain rfl rfl rfl (by decide +kernel) ⟨Nat.le_of_ble_eq_true rfl, Nat.le_of_ble_eq_true rfl⟩) preEq rfl rfl hl.1 rfl (lv_room (Nat.le_of_ble_eq_true rfl)) dX3_operateLongWithImmediate_71 ⟨Nat.le_of_ble_eq_true rfl, Nat.le_of_ble_eq_true rfl⟩) ?_
          refine W.eq (g2 := F0 m 74 ls [.long (f_X1_plain (f_X2_f p0) (f_X3_x u p0) (f_X2_immediateI p0).toInt64), .int p0, .ref h0]) rfl ?_
          refine wr_calli (wr := []) (va_runV (As := [.int p0, .long (f_X1_plain (f_X2_f p0) (f_X3_x u p0) (f_X2_immediateI p0).toInt64)]) (rest := []) ⟨hx, hb, hml, hown, hts⟩ (mt_X3_give l dC dI h0 h1 cA s.heap.size u p0 (f_X1_plain (f_X2_f p0) (f_X3_x u p0) (f_X2_immediateI p0).toInt64)) (cwV 2 hts gX3_55_X3_give rfl rfl rfl (by decide +kernel) ⟨Nat.le_of_ble_eq_true rfl, Nat.le_of_ble_eq_true rfl⟩) (wr_V hK hP hD (ci := 0) (q0 := 0) rfl rfl rfl) rfl rfl hl.1 rfl (lv_room (Nat.le_of_ble_eq_true rfl)) dX3_operateLongWithImmediate_74 ⟨Nat.le_of_ble_eq_true rfl, Nat.le_of_ble_eq_true rfl⟩) hS hP hD hA [0, 1] [] rfl rfl (by decide) (by decide) (fun r_ v_ H locs hw hP hD hS => ?_)
          obtain ⟨rfl, rfl⟩ := hw
          refine W.eq (g2 := F0 m 77 ls [.int (f_X3_give u p0 (f_X1_plain (f_X2_f p0) (f_X3_x u p0) (f_X2_immediateI p0).toInt64)).1]) rfl ?_
          have hP : va_P (dC, dI) vwCl (Wc h0 h1 cA (f_X3_give u p0 (f_X1_plain (f_X2_f p0) (f_X3_x u p0) (f_X2_immediateI p0).toInt64)).2) H := hP
          have hD : va_D A (Wc h0 h1 cA (f_X3_give u p0 (f_X1_plain (f_X2_f p0) (f_X3_x u p0) (f_X2_immediateI p0).toInt64)).2) := hD
          have hF : f_X3_operateLongWithImmediate u p0 = ((f_X3_give u p0 (f_X1_plain (f_X2_f p0) (f_X3_x u p0) (f_X2_immediateI p0).toInt64)).1, (f_X3_give u p0 (f_X1_plain (f_X2_f p0) (f_X3_x u p0) (f_X2_immediateI p0).toInt64)).2) := by unfold f_X3_operateLongWithImmediate; rw [if_pos c1, if_neg c4, if_pos c5, if_pos c6]
          exact W.iret (v := (f_X3_give u p0 (f_X1_plain (f_X2_f p0) (f_X3_x u p0) (f_X2_immediateI p0).toInt64)).1) hx hb hr (fun t ht hW => ⟨⟨(f_X3_give u p0 (f_X1_plain (f_X2_f p0) (f_X3_x u p0) (f_X2_immediateI p0).toInt64)).1, (f_X3_give u p0 (f_X1_plain (f_X2_f p0) (f_X3_x u p0) (f_X2_immediateI p0).toInt64)).2, rfl, ⟨(congrArg Prod.fst hF).symm, (congrArg Prod.snd hF).symm⟩, by rw [ht]; exact hP, va_K.moved hW.alike hK, hD⟩, hS.F ht⟩) hS.2.2 dX3_operateLongWithImmediate_77
        · refine lv_iconst (v := (-1 : Int32)) hx hb dX3_operateLongWithImmediate_62 (by decide) ?_
          have hF : f_X3_operateLongWithImmediate u p0 = ((-1 : Int32), u) := by unfold f_X3_operateLongWithImmediate; rw [if_pos c1, if_neg c4, if_pos c5, if_neg c6]
          exact W.iret (v := (-1 : Int32)) hx hb hr (fun t ht hW => ⟨⟨(-1 : Int32), u, rfl, ⟨(congrArg Prod.fst hF).symm, (congrArg Prod.snd hF).symm⟩, by rw [ht]; exact hP, va_K.moved hW.alike hK, hD⟩, hS.F ht⟩) hS.2.2 dX3_operateLongWithImmediate_63
      · refine lv_iload_n hx hb dX3_operateLongWithImmediate_53 rfl (lv_at hl 3 rfl) ?_
        refine lv_iconst (v := (5 : Int32)) hx hb dX3_operateLongWithImmediate_54 (by decide) ?_
        refine lv_icmp_ne (tgt := 64) hx hb dX3_operateLongWithImmediate_55 (by decide) (fun c_ => absurd c1 c_) (fun _ => ?_)
        refine lv_iload_n hx hb dX3_operateLongWithImmediate_58 rfl (lv_at hl 2 rfl) ?_
        refine lv_if_eq (tgt := 64) hx hb dX3_operateLongWithImmediate_59 (by decide) (fun c7 => ?_) (fun c7 => ?_)
        · refine lv_aload_n hx hb dX3_operateLongWithImmediate_64 rfl (lv_at hl 4 rfl) ?_
          refine lv_iload_n hx hb dX3_operateLongWithImmediate_65 rfl (lv_at hl 5 rfl) ?_
          refine lv_iload_n hx hb dX3_operateLongWithImmediate_66 rfl (lv_at hl 3 rfl) ?_
          refine lv_lload hx hb dX3_operateLongWithImmediate_67 (lv_at hl 1 rfl) ?_
          refine lv_lload hx hb dX3_operateLongWithImmediate_69 (lv_at hl 0 rfl) ?_
          refine W.callV (W.runS (As := [.int (f_X2_f p0), .long (f_X3_x u p0), .long (f_X2_immediateI p0).toInt64]) (rest := [.int p0, .ref h0]) ⟨hx, hb, hml, hown, hts⟩ (mt_X1_plain l (f_X2_f p0) (f_X3_x u p0) (f_X2_immediateI p0).toInt64) (va_cwS 3 hts gX3_182_X1_plain rfl rfl rfl (by decide +kernel) ⟨Nat.le_of_ble_eq_true rfl, Nat.le_of_ble_eq_true rfl⟩) preEq rfl rfl hl.1 rfl (lv_room (Nat.le_of_ble_eq_true rfl)) dX3_operateLongWithImmediate_71 ⟨Nat.le_of_ble_eq_true rfl, Nat.le_of_ble_eq_true rfl⟩) ?_
          refine W.eq (g2 := F0 m 74 ls [.long (f_X1_plain (f_X2_f p0) (f_X3_x u p0) (f_X2_immediateI p0).toInt64), .int p0, .ref h0]) rfl ?_
          refine wr_calli (wr := []) (va_runV (As := [.int p0, .long (f_X1_plain (f_X2_f p0) (f_X3_x u p0) (f_X2_immediateI p0).toInt64)]) (rest := []) ⟨hx, hb, hml, hown, hts⟩ (mt_X3_give l dC dI h0 h1 cA s.heap.size u p0 (f_X1_plain (f_X2_f p0) (f_X3_x u p0) (f_X2_immediateI p0).toInt64)) (cwV 2 hts gX3_55_X3_give rfl rfl rfl (by decide +kernel) ⟨Nat.le_of_ble_eq_true rfl, Nat.le_of_ble_eq_true rfl⟩) (wr_V hK hP hD (ci := 0) (q0 := 0) rfl rfl rfl) rfl rfl hl.1 rfl (lv_room (Nat.le_of_ble_eq_true rfl)) dX3_operateLongWithImmediate_74 ⟨Nat.le_of_ble_eq_true rfl, Nat.le_of_ble_eq_true rfl⟩) hS hP hD hA [0, 1] [] rfl rfl (by decide) (by decide) (fun r_ v_ H locs hw hP hD hS => ?_)
          obtain ⟨rfl, rfl⟩ := hw
          refine W.eq (g2 := F0 m 77 ls [.int (f_X3_give u p0 (f_X1_plain (f_X2_f p0) (f_X3_x u p0) (f_X2_immediateI p0).toInt64)).1]) rfl ?_
          have hP : va_P (dC, dI) vwCl (Wc h0 h1 cA (f_X3_give u p0 (f_X1_plain (f_X2_f p0) (f_X3_x u p0) (f_X2_immediateI p0).toInt64)).2) H := hP
          have hD : va_D A (Wc h0 h1 cA (f_X3_give u p0 (f_X1_plain (f_X2_f p0) (f_X3_x u p0) (f_X2_immediateI p0).toInt64)).2) := hD
          have hF : f_X3_operateLongWithImmediate u p0 = ((f_X3_give u p0 (f_X1_plain (f_X2_f p0) (f_X3_x u p0) (f_X2_immediateI p0).toInt64)).1, (f_X3_give u p0 (f_X1_plain (f_X2_f p0) (f_X3_x u p0) (f_X2_immediateI p0).toInt64)).2) := by unfold f_X3_operateLongWithImmediate; rw [if_pos c1, if_neg c4, if_neg c5, if_pos c7]
          exact W.iret (v := (f_X3_give u p0 (f_X1_plain (f_X2_f p0) (f_X3_x u p0) (f_X2_immediateI p0).toInt64)).1) hx hb hr (fun t ht hW => ⟨⟨(f_X3_give u p0 (f_X1_plain (f_X2_f p0) (f_X3_x u p0) (f_X2_immediateI p0).toInt64)).1, (f_X3_give u p0 (f_X1_plain (f_X2_f p0) (f_X3_x u p0) (f_X2_immediateI p0).toInt64)).2, rfl, ⟨(congrArg Prod.fst hF).symm, (congrArg Prod.snd hF).symm⟩, by rw [ht]; exact hP, va_K.moved hW.alike hK, hD⟩, hS.F ht⟩) hS.2.2 dX3_operateLongWithImmediate_77
        · refine lv_iconst (v := (-1 : Int32)) hx hb dX3_operateLongWithImmediate_62 (by decide) ?_
          have hF : f_X3_operateLongWithImmediate u p0 = ((-1 : Int32), u) := by unfold f_X3_operateLongWithImmediate; rw [if_pos c1, if_neg c4, if_neg c5, if_neg c7]
          exact W.iret (v := (-1 : Int32)) hx hb hr (fun t ht hW => ⟨⟨(-1 : Int32), u, rfl, ⟨(congrArg Prod.fst hF).symm, (congrArg Prod.snd hF).symm⟩, by rw [ht]; exact hP, va_K.moved hW.alike hK, hD⟩, hS.F ht⟩) hS.2.2 dX3_operateLongWithImmediate_63
    · refine lv_aload_n hx hb dX3_operateLongWithImmediate_35 rfl (lv_at hl 4 rfl) ?_
      refine lv_iload_n hx hb dX3_operateLongWithImmediate_36 rfl (lv_at hl 5 rfl) ?_
      refine lv_lload hx hb dX3_operateLongWithImmediate_37 (lv_at hl 1 rfl) ?_
      refine lv_lload hx hb dX3_operateLongWithImmediate_39 (lv_at hl 0 rfl) ?_
      refine W.callV (W.runS (As := [.long (f_X3_x u p0), .long (f_X2_immediateI p0).toInt64]) (rest := [.int p0, .ref h0]) ⟨hx, hb, hml, hown, hts⟩ (mt_X1_shiftRightWithSign l (f_X3_x u p0) (f_X2_immediateI p0).toInt64) (va_cwS 2 hts gX3_178_X1_shiftRightWithSign rfl rfl rfl (by decide +kernel) ⟨Nat.le_of_ble_eq_true rfl, Nat.le_of_ble_eq_true rfl⟩) preEq rfl rfl hl.1 rfl (lv_room (Nat.le_of_ble_eq_true rfl)) dX3_operateLongWithImmediate_41 ⟨Nat.le_of_ble_eq_true rfl, Nat.le_of_ble_eq_true rfl⟩) ?_
      refine W.eq (g2 := F0 m 44 ls [.long (f_X1_shiftRightWithSign (f_X3_x u p0) (f_X2_immediateI p0).toInt64), .int p0, .ref h0]) rfl ?_
      refine wr_calli (wr := []) (va_runV (As := [.int p0, .long (f_X1_shiftRightWithSign (f_X3_x u p0) (f_X2_immediateI p0).toInt64)]) (rest := []) ⟨hx, hb, hml, hown, hts⟩ (mt_X3_give l dC dI h0 h1 cA s.heap.size u p0 (f_X1_shiftRightWithSign (f_X3_x u p0) (f_X2_immediateI p0).toInt64)) (cwV 2 hts gX3_55_X3_give rfl rfl rfl (by decide +kernel) ⟨Nat.le_of_ble_eq_true rfl, Nat.le_of_ble_eq_true rfl⟩) (wr_V hK hP hD (ci := 0) (q0 := 0) rfl rfl rfl) rfl rfl hl.1 rfl (lv_room (Nat.le_of_ble_eq_true rfl)) dX3_operateLongWithImmediate_44 ⟨Nat.le_of_ble_eq_true rfl, Nat.le_of_ble_eq_true rfl⟩) hS hP hD hA [0, 1] [] rfl rfl (by decide) (by decide) (fun r_ v_ H locs hw hP hD hS => ?_)
      obtain ⟨rfl, rfl⟩ := hw
      refine W.eq (g2 := F0 m 47 ls [.int (f_X3_give u p0 (f_X1_shiftRightWithSign (f_X3_x u p0) (f_X2_immediateI p0).toInt64)).1]) rfl ?_
      have hP : va_P (dC, dI) vwCl (Wc h0 h1 cA (f_X3_give u p0 (f_X1_shiftRightWithSign (f_X3_x u p0) (f_X2_immediateI p0).toInt64)).2) H := hP
      have hD : va_D A (Wc h0 h1 cA (f_X3_give u p0 (f_X1_shiftRightWithSign (f_X3_x u p0) (f_X2_immediateI p0).toInt64)).2) := hD
      have hF : f_X3_operateLongWithImmediate u p0 = ((f_X3_give u p0 (f_X1_shiftRightWithSign (f_X3_x u p0) (f_X2_immediateI p0).toInt64)).1, (f_X3_give u p0 (f_X1_shiftRightWithSign (f_X3_x u p0) (f_X2_immediateI p0).toInt64)).2) := by unfold f_X3_operateLongWithImmediate; rw [if_pos c1, if_pos c4]
      exact W.iret (v := (f_X3_give u p0 (f_X1_shiftRightWithSign (f_X3_x u p0) (f_X2_immediateI p0).toInt64)).1) hx hb hr (fun t ht hW => ⟨⟨(f_X3_give u p0 (f_X1_shiftRightWithSign (f_X3_x u p0) (f_X2_immediateI p0).toInt64)).1, (f_X3_give u p0 (f_X1_shiftRightWithSign (f_X3_x u p0) (f_X2_immediateI p0).toInt64)).2, rfl, ⟨(congrArg Prod.fst hF).symm, (congrArg Prod.snd hF).symm⟩, by rw [ht]; exact hP, va_K.moved hW.alike hK, hD⟩, hS.F ht⟩) hS.2.2 dX3_operateLongWithImmediate_47

def f_X3_operateLongs (u : ScT) (p0 : Int32) : Int32 × ScT :=
  if (f_X2_g p0) = (0 : Int32) then
    ((f_X3_give u p0 (f_X1_plain (f_X2_f p0) (f_X3_x u p0) (f_X3_y u p0))).1, (f_X3_give u p0 (f_X1_plain (f_X2_f p0) (f_X3_x u p0) (f_X3_y u p0))).2)
  else if (f_X2_g p0) = (1 : Int32) then
    ((f_X3_give u p0 (f_X1_product (f_X2_f p0) (f_X3_x u p0) (f_X3_y u p0))).1, (f_X3_give u p0 (f_X1_product (f_X2_f p0) (f_X3_x u p0) (f_X3_y u p0))).2)
  else if (f_X2_g p0) = (32 : Int32) then
    if (f_X2_f p0) = 0 then
      ((f_X3_give u p0 ((f_X3_x u p0) - (f_X3_y u p0))).1, (f_X3_give u p0 ((f_X3_x u p0) - (f_X3_y u p0))).2)
    else if (f_X2_f p0) = (5 : Int32) then
      ((f_X3_give u p0 (f_X1_shiftRightWithSign (f_X3_x u p0) (f_X3_y u p0))).1, (f_X3_give u p0 (f_X1_shiftRightWithSign (f_X3_x u p0) (f_X3_y u p0))).2)
    else
      ((-1 : Int32), u)
  else
    ((-1 : Int32), u)
set_option maxHeartbeats 4000000 in
set_option maxRecDepth 100000 in
theorem mt_X3_operateLongs (l : Launch) (dC : Nat → ClassId) (dI : Nat → Nat → Nat) (h0 h1 : Nat) (cA : ClassId) (sz : Nat) (u : ScT) (p0 : Int32) : Met l yX3_operateLongs wsX3_operateLongs ({ frames := 6, cells := 0, slots := 0, locals := 141 }) (wr_P [.ref h0, .int p0] (dC, dI) vwCl (Wc h0 h1 cA u) [(cA, .long)] sz) (va_Qi (fun r v => r = (f_X3_operateLongs u p0).1 ∧ v = (f_X3_operateLongs u p0).2) (wr_B (dC, dI) vwCl [(cA, .long)] (va_A (Wc h0 h1 cA u) sz) (Wc h0 h1 cA)) (va_A (Wc h0 h1 cA u) sz)) 0 0 (va_A (Wc h0 h1 cA u) sz) := by
  refine Met.ofW (cc := cX3_operateLongs) (maxL := 7) (ret := (some .int)) (by decide) rfl ?_
  intro p e s m args below meth c s₁ B hml hv
  obtain ⟨rfl, hsz, hP, hK, hD0⟩ := hv
  have hx := B.exec
  have hb := B.bytes
  have hr := B.returns
  have hts0 := atoms_spec (ws := wsX3_operateLongs) B.pre
  have hts := fun (w : Cond) (h : w ∈ lw_G) => hts0 w (List.mem_cons_of_mem _ h)
  have hown : s.vm.findClass RX3 = some m.cls := findClass_of_methodNamed B.named
  have hlocks := B.notSynchronized
  subst hsz
  have hD := hD0.self (sz := s.heap.size)
  generalize hAe : va_A (Wc h0 h1 cA u) s.heap.size = A at hD ⊢
  have hA : ∀ q : Nat, s.heap.size ≤ q → A q := fun q h => by rw [← hAe]; exact Or.inr h
  have hS : va_S A s.heap s.heap [] := va_S.rf
  have hl := lv_entry ([.ref h0, .int p0]) (n := 7) (Nat.le_of_ble_eq_true rfl)
  rw [lg_entry_eq]
  generalize (lg_sl ([.ref h0, .int p0]) ++ List.replicate (7 - (lg_sl ([.ref h0, .int p0])).length) Slot.unset).toArray = ls at hl ⊢
  have hl : lv_has ls 7 [(0, .ref h0), (1, .int p0)] := hl
  refine lv_iload_n hx hb dX3_operateLongs_0 rfl (lv_at hl 1 rfl) ?_
  refine W.callV (W.runS (As := [.int p0]) (rest := []) ⟨hx, hb, hml, hown, hts⟩ (mt_X2_f l p0) (va_cwS 1 hts gX3_157_X2_f rfl rfl rfl (by decide +kernel) ⟨Nat.le_of_ble_eq_true rfl, Nat.le_of_ble_eq_true rfl⟩) preEq rfl rfl hl.1 rfl (lv_room (Nat.le_of_ble_eq_true rfl)) dX3_operateLongs_1 ⟨Nat.le_of_ble_eq_true rfl, Nat.le_of_ble_eq_true rfl⟩) ?_
  refine W.eq (g2 := F0 m 4 ls [.int (f_X2_f p0)]) rfl ?_
  refine lv_istore_n (lv' := [(2, .int (f_X2_f p0)), (0, .ref h0), (1, .int p0)]) hx hb dX3_operateLongs_4 rfl hl (by decide) rfl (fun ls hl => ?_)
  refine lv_aload_n hx hb dX3_operateLongs_5 rfl (lv_at hl 1 rfl) ?_
  refine lv_iload_n hx hb dX3_operateLongs_6 rfl (lv_at hl 2 rfl) ?_
  refine W.callV (W.runV (As := [.int p0]) (rest := []) ⟨hx, hb, hml, hown, hts⟩ (mt_X3_x l dC dI h0 h1 cA u p0) (cwV 1 hts gX3_101_X3_x rfl rfl rfl (by decide +kernel) ⟨Nat.le_of_ble_eq_true rfl, Nat.le_of_ble_eq_true rfl⟩) (rd_V hK hP (ci := 0) (q0 := 0) rfl rfl rfl) rfl rfl hl.1 rfl (lv_room (Nat.le_of_ble_eq_true rfl)) dX3_operateLongs_7 ⟨Nat.le_of_ble_eq_true rfl, Nat.le_of_ble_eq_true rfl⟩) ?_
  refine W.eq (g2 := F0 m 10 ls [.long (f_X3_x u p0)]) rfl ?_
  refine lv_lstore_n (lv' := [(3, .long (f_X3_x u p0)), (2, .int (f_X2_f p0)), (0, .ref h0), (1, .int p0)]) hx hb dX3_operateLongs_10 rfl hl (by decide) rfl (fun ls hl => ?_)
  refine lv_aload_n hx hb dX3_operateLongs_11 rfl (lv_at hl 2 rfl) ?_
  refine lv_iload_n hx hb dX3_operateLongs_12 rfl (lv_at hl 3 rfl) ?_
  refine W.callV (W.runV (As := [.int p0]) (rest := []) ⟨hx, hb, hml, hown, hts⟩ (mt_X3_y l dC dI h0 h1 cA u p0) (cwV 1 hts gX3_163_X3_y rfl rfl rfl (by decide +kernel) ⟨Nat.le_of_ble_eq_true rfl, Nat.le_of_ble_eq_true rfl⟩) (rd_V hK hP (ci := 0) (q0 := 0) rfl rfl rfl) rfl rfl hl.1 rfl (lv_room (Nat.le_of_ble_eq_true rfl)) dX3_operateLongs_13 ⟨Nat.le_of_ble_eq_true rfl, Nat.le_of_ble_eq_true rfl⟩) ?_
  refine W.eq (g2 := F0 m 16 ls [.long (f_X3_y u p0)]) rfl ?_
  refine lv_lstore (lv' := [(5, .long (f_X3_y u p0)), (3, .long (f_X3_x u p0)), (2, .int (f_X2_f p0)), (0, .ref h0), (1, .int p0)]) hx hb dX3_operateLongs_16 hl (by decide) rfl (fun ls hl => ?_)
  refine lv_iload_n hx hb dX3_operateLongs_18 rfl (lv_at hl 4 rfl) ?_
  refine W.callV (W.runS (As := [.int p0]) (rest := []) ⟨hx, hb, hml, hown, hts⟩ (mt_X2_g l p0) (va_cwS 1 hts gX3_186_X2_g rfl rfl rfl (by decide +kernel) ⟨Nat.le_of_ble_eq_true rfl, Nat.le_of_ble_eq_true rfl⟩) preEq rfl rfl hl.1 rfl (lv_room (Nat.le_of_ble_eq_true rfl)) dX3_operateLongs_19 ⟨Nat.le_of_ble_eq_true rfl, Nat.le_of_ble_eq_true rfl⟩) ?_
  refine W.eq (g2 := F0 m 22 ls [.int (f_X2_g p0)]) rfl ?_
  by_cases c1 : (f_X2_g p0) = (0 : Int32)
  · refine lv_lookup (tgt := 56) (off := 34) hx hb dX3_operateLongs_22 (by decide +kernel) (by rw [c1]; decide +kernel) (by decide) ?_
    refine lv_aload_n hx hb dX3_operateLongs_56 rfl (lv_at hl 3 rfl) ?_
    refine lv_iload_n hx hb dX3_operateLongs_57 rfl (lv_at hl 4 rfl) ?_
    refine lv_iload_n hx hb dX3_operateLongs_58 rfl (lv_at hl 2 rfl) ?_
    refine lv_lload_n hx hb dX3_operateLongs_59 rfl (lv_at hl 1 rfl) ?_
    refine lv_lload hx hb dX3_operateLongs_60 (lv_at hl 0 rfl) ?_
    refine W.callV (W.runS (As := [.int (f_X2_f p0), .long (f_X3_x u p0), .long (f_X3_y u p0)]) (rest := [.int p0, .ref h0]) ⟨hx, hb, hml, hown, hts⟩ (mt_X1_plain l (f_X2_f p0) (f_X3_x u p0) (f_X3_y u p0)) (va_cwS 3 hts gX3_182_X1_plain rfl rfl rfl (by decide +kernel) ⟨Nat.le_of_ble_eq_true rfl, Nat.le_of_ble_eq_true rfl⟩) preEq rfl rfl hl.1 rfl (lv_room (Nat.le_of_ble_eq_true rfl)) dX3_operateLongs_62 ⟨Nat.le_of_ble_eq_true rfl, Nat.le_of_ble_eq_true rfl⟩) ?_
    refine W.eq (g2 := F0 m 65 ls [.long (f_X1_plain (f_X2_f p0) (f_X3_x u p0) (f_X3_y u p0)), .int p0, .ref h0]) rfl ?_
    refine wr_calli (wr := []) (va_runV (As := [.int p0, .long (f_X1_plain (f_X2_f p0) (f_X3_x u p0) (f_X3_y u p0))]) (rest := []) ⟨hx, hb, hml, hown, hts⟩ (mt_X3_give l dC dI h0 h1 cA s.heap.size u p0 (f_X1_plain (f_X2_f p0) (f_X3_x u p0) (f_X3_y u p0))) (cwV 2 hts gX3_55_X3_give rfl rfl rfl (by decide +kernel) ⟨Nat.le_of_ble_eq_true rfl, Nat.le_of_ble_eq_true rfl⟩) (wr_V hK hP hD (ci := 0) (q0 := 0) rfl rfl rfl) rfl rfl hl.1 rfl (lv_room (Nat.le_of_ble_eq_true rfl)) dX3_operateLongs_65 ⟨Nat.le_of_ble_eq_true rfl, Nat.le_of_ble_eq_true rfl⟩) hS hP hD hA [0, 1] [] rfl rfl (by decide) (by decide) (fun r_ v_ H locs hw hP hD hS => ?_)
    obtain ⟨rfl, rfl⟩ := hw
    refine W.eq (g2 := F0 m 68 ls [.int (f_X3_give u p0 (f_X1_plain (f_X2_f p0) (f_X3_x u p0) (f_X3_y u p0))).1]) rfl ?_
    have hP : va_P (dC, dI) vwCl (Wc h0 h1 cA (f_X3_give u p0 (f_X1_plain (f_X2_f p0) (f_X3_x u p0) (f_X3_y u p0))).2) H := hP
    have hD : va_D A (Wc h0 h1 cA (f_X3_give u p0 (f_X1_plain (f_X2_f p0) (f_X3_x u p0) (f_X3_y u p0))).2) := hD
    have hF : f_X3_operateLongs u p0 = ((f_X3_give u p0 (f_X1_plain (f_X2_f p0) (f_X3_x u p0) (f_X3_y u p0))).1, (f_X3_give u p0 (f_X1_plain (f_X2_f p0) (f_X3_x u p0) (f_X3_y u p0))).2) := by unfold f_X3_operateLongs; rw [if_pos c1]
    exact W.iret (v := (f_X3_give u p0 (f_X1_plain (f_X2_f p0) (f_X3_x u p0) (f_X3_y u p0))).1) hx hb hr (fun t ht hW => ⟨⟨(f_X3_give u p0 (f_X1_plain (f_X2_f p0) (f_X3_x u p0) (f_X3_y u p0))).1, (f_X3_give u p0 (f_X1_plain (f_X2_f p0) (f_X3_x u p0) (f_X3_y u p0))).2, rfl, ⟨(congrArg Prod.fst hF).symm, (congrArg Prod.snd hF).symm⟩, by rw [ht]; exact hP, va_K.moved hW.alike hK, hD⟩, hS.F ht⟩) hS.2.2 dX3_operateLongs_68
  · by_cases c2 : (f_X2_g p0) = (1 : Int32)
    · refine lv_lookup (tgt := 69) (off := 47) hx hb dX3_operateLongs_22 (by decide +kernel) (by rw [c2]; decide +kernel) (by decide) ?_
      refine lv_aload_n hx hb dX3_operateLongs_69 rfl (lv_at hl 3 rfl) ?_
      refine lv_iload_n hx hb dX3_operateLongs_70 rfl (lv_at hl 4 rfl) ?_
      refine lv_iload_n hx hb dX3_operateLongs_71 rfl (lv_at hl 2 rfl) ?_
      refine lv_lload_n hx hb dX3_operateLongs_72 rfl (lv_at hl 1 rfl) ?_
      refine lv_lload hx hb dX3_operateLongs_73 (lv_at hl 0 rfl) ?_
      refine W.callV (W.runS (As := [.int (f_X2_f p0), .long (f_X3_x u p0), .long (f_X3_y u p0)]) (rest := [.int p0, .ref h0]) ⟨hx, hb, hml, hown, hts⟩ (mt_X1_product l (f_X2_f p0) (f_X3_x u p0) (f_X3_y u p0)) (va_cwS 3 hts gX3_189_X1_product rfl rfl rfl (by decide +kernel) ⟨Nat.le_of_ble_eq_true rfl, Nat.le_of_ble_eq_true rfl⟩) preEq rfl rfl hl.1 rfl (lv_room (Nat.le_of_ble_eq_true rfl)) dX3_operateLongs_75 ⟨Nat.le_of_ble_eq_true rfl, Nat.le_of_ble_eq_true rfl⟩) ?_
      refine W.eq (g2 := F0 m 78 ls [.long (f_X1_product (f_X2_f p0) (f_X3_x u p0) (f_X3_y u p0)), .int p0, .ref h0]) rfl ?_
      refine wr_calli (wr := []) (va_runV (As := [.int p0, .long (f_X1_product (f_X2_f p0) (f_X3_x u p0) (f_X3_y u p0))]) (rest := []) ⟨hx, hb, hml, hown, hts⟩ (mt_X3_give l dC dI h0 h1 cA s.heap.size u p0 (f_X1_product (f_X2_f p0) (f_X3_x u p0) (f_X3_y u p0))) (cwV 2 hts gX3_55_X3_give rfl rfl rfl (by decide +kernel) ⟨Nat.le_of_ble_eq_true rfl, Nat.le_of_ble_eq_true rfl⟩) (wr_V hK hP hD (ci := 0) (q0 := 0) rfl rfl rfl) rfl rfl hl.1 rfl (lv_room (Nat.le_of_ble_eq_true rfl)) dX3_operateLongs_78 ⟨Nat.le_of_ble_eq_true rfl, Nat.le_of_ble_eq_true rfl⟩) hS hP hD hA [0, 1] [] rfl rfl (by decide) (by decide) (fun r_ v_ H locs hw hP hD hS => ?_)
      obtain ⟨rfl, rfl⟩ := hw
      refine W.eq (g2 := F0 m 81 ls [.int (f_X3_give u p0 (f_X1_product (f_X2_f p0) (f_X3_x u p0) (f_X3_y u p0))).1]) rfl ?_
      have hP : va_P (dC, dI) vwCl (Wc h0 h1 cA (f_X3_give u p0 (f_X1_product (f_X2_f p0) (f_X3_x u p0) (f_X3_y u p0))).2) H := hP
      have hD : va_D A (Wc h0 h1 cA (f_X3_give u p0 (f_X1_product (f_X2_f p0) (f_X3_x u p0) (f_X3_y u p0))).2) := hD
      have hF : f_X3_operateLongs u p0 = ((f_X3_give u p0 (f_X1_product (f_X2_f p0) (f_X3_x u p0) (f_X3_y u p0))).1, (f_X3_give u p0 (f_X1_product (f_X2_f p0) (f_X3_x u p0) (f_X3_y u p0))).2) := by unfold f_X3_operateLongs; rw [if_neg c1, if_pos c2]
      exact W.iret (v := (f_X3_give u p0 (f_X1_product (f_X2_f p0) (f_X3_x u p0) (f_X3_y u p0))).1) hx hb hr (fun t ht hW => ⟨⟨(f_X3_give u p0 (f_X1_product (f_X2_f p0) (f_X3_x u p0) (f_X3_y u p0))).1, (f_X3_give u p0 (f_X1_product (f_X2_f p0) (f_X3_x u p0) (f_X3_y u p0))).2, rfl, ⟨(congrArg Prod.fst hF).symm, (congrArg Prod.snd hF).symm⟩, by rw [ht]; exact hP, va_K.moved hW.alike hK, hD⟩, hS.F ht⟩) hS.2.2 dX3_operateLongs_81
    · by_cases c3 : (f_X2_g p0) = (32 : Int32)
      · refine lv_lookup (tgt := 82) (off := 60) hx hb dX3_operateLongs_22 (by decide +kernel) (by rw [c3]; decide +kernel) (by decide) ?_
        refine lv_iload_n hx hb dX3_operateLongs_82 rfl (lv_at hl 2 rfl) ?_
        refine lv_if_ne (tgt := 96) hx hb dX3_operateLongs_83 (by decide) (fun c4 => ?_) (fun c4 => ?_)
        · refine lv_iload_n hx hb dX3_operateLongs_96 rfl (lv_at hl 2 rfl) ?_
          refine lv_iconst (v := (5 : Int32)) hx hb dX3_operateLongs_97 (by decide) ?_
          refine lv_icmp_ne (tgt := 115) hx hb dX3_operateLongs_98 (by decide) (fun c5 => ?_) (fun c5 => ?_)
          · refine lv_iconst (v := (-1 : Int32)) hx hb dX3_operateLongs_115 (by decide) ?_
            have hF : f_X3_operateLongs u p0 = ((-1 : Int32), u) := by unfold f_X3_operateLongs; rw [if_neg c1, if_neg c2, if_pos c3, if_neg c4, if_neg c5]
            exact W.iret (v := (-1 : Int32)) hx hb hr (fun t ht hW => ⟨⟨(-1 : Int32), u, rfl, ⟨(congrArg Prod.fst hF).symm, (congrArg Prod.snd hF).symm⟩, by rw [ht]; exact hP, va_K.moved hW.alike hK, hD⟩, hS.F ht⟩) hS.2.2 dX3_operateLongs_116
          · refine lv_aload_n hx hb dX3_operateLongs_101 rfl (lv_at hl 3 rfl) ?_
            refine lv_iload_n hx hb dX3_operateLongs_102 rfl (lv_at hl 4 rfl) ?_
            refine lv_lload_n hx hb dX3_operateLongs_103 rfl (lv_at hl 1 rfl) ?_
            refine lv_lload hx hb dX3_operateLongs_104 (lv_at hl 0 rfl) ?_
            refine W.callV (W.runS (As := [.long (f_X3_x u p0), .long (f_X3_y u p0)]) (rest := [.int p0, .ref h0]) ⟨hx, hb, hml, hown, hts⟩ (mt_X1_shiftRightWithSign l (f_X3_x u p0) (f_X3_y u p0)) (va_cwS 2 hts gX3_178_X1_shiftRightWithSign rfl rfl rfl (by decide +kernel) ⟨Nat.le_of_ble_eq_true rfl, Nat.le_of_ble_eq_true rfl⟩) preEq rfl rfl hl.1 rfl (lv_room (Nat.le_of_ble_eq_true rfl)) dX3_operateLongs_106 ⟨Nat.le_of_ble_eq_true rfl, Nat.le_of_ble_eq_true rfl⟩) ?_
            refine W.eq (g2 := F0 m 109 ls [.long (f_X1_shiftRightWithSign (f_X3_x u p0) (f_X3_y u p0)), .int p0, .ref h0]) rfl ?_
            refine wr_calli (wr := []) (va_runV (As := [.int p0, .long (f_X1_shiftRightWithSign (f_X3_x u p0) (f_X3_y u p0))]) (rest := []) ⟨hx, hb, hml, hown, hts⟩ (mt_X3_give l dC dI h0 h1 cA s.heap.size u p0 (f_X1_shiftRightWithSign (f_X3_x u p0) (f_X3_y u p0))) (cwV 2 hts gX3_55_X3_give rfl rfl rfl (by decide +kernel) ⟨Nat.le_of_ble_eq_true rfl, Nat.le_of_ble_eq_true rfl⟩) (wr_V hK hP hD (ci := 0) (q0 := 0) rfl rfl rfl) rfl rfl hl.1 rfl (lv_room (Nat.le_of_ble_eq_true rfl)) dX3_operateLongs_109 ⟨Nat.le_of_ble_eq_true rfl, Nat.le_of_ble_eq_true rfl⟩) hS hP hD hA [0, 1] [] rfl rfl (by decide) (by decide) (fun r_ v_ H locs hw hP hD hS => ?_)
            obtain ⟨rfl, rfl⟩ := hw
            refine W.eq (g2 := F0 m 112 ls [.int (f_X3_give u p0 (f_X1_shiftRightWithSign (f_X3_x u p0) (f_X3_y u p0))).1]) rfl ?_
            have hP : va_P (dC, dI) vwCl (Wc h0 h1 cA (f_X3_give u p0 (f_X1_shiftRightWithSign (f_X3_x u p0) (f_X3_y u p0))).2) H := hP
            have hD : va_D A (Wc h0 h1 cA (f_X3_give u p0 (f_X1_shiftRightWithSign (f_X3_x u p0) (f_X3_y u p0))).2) := hD
            refine lv_goto (tgt := 116) hx hb dX3_operateLongs_112 (by decide) ?_
            have hF : f_X3_operateLongs u p0 = ((f_X3_give u p0 (f_X1_shiftRightWithSign (f_X3_x u p0) (f_X3_y u p0))).1, (f_X3_give u p0 (f_X1_shiftRightWithSign (f_X3_x u p0) (f_X3_y u p0))).2) := by unfold f_X3_operateLongs; rw [if_neg c1, if_neg c2, if_pos c3, if_neg c4, if_pos c5]
            exact W.iret (v := (f_X3_give u p0 (f_X1_shiftRightWithSign (f_X3_x u p0) (f_X3_y u p0))).1) hx hb hr (fun t ht hW => ⟨⟨(f_X3_give u p0 (f_X1_shiftRightWithSign (f_X3_x u p0) (f_X3_y u p0))).1, (f_X3_give u p0 (f_X1_shiftRightWithSign (f_X3_x u p0) (f_X3_y u p0))).2, rfl, ⟨(congrArg Prod.fst hF).symm, (congrArg Prod.snd hF).symm⟩, by rw [ht]; exact hP, va_K.moved hW.alike hK, hD⟩, hS.F ht⟩) hS.2.2 dX3_operateLongs_116
        · refine lv_aload_n hx hb dX3_operateLongs_86 rfl (lv_at hl 3 rfl) ?_
          refine lv_iload_n hx hb dX3_operateLongs_87 rfl (lv_at hl 4 rfl) ?_
          refine lv_lload_n hx hb dX3_operateLongs_88 rfl (lv_at hl 1 rfl) ?_
          refine lv_lload hx hb dX3_operateLongs_89 (lv_at hl 0 rfl) ?_
          refine lv_lsub hx hb dX3_operateLongs_91 ?_
          refine wr_calli (wr := []) (va_runV (As := [.int p0, .long ((f_X3_x u p0) - (f_X3_y u p0))]) (rest := []) ⟨hx, hb, hml, hown, hts⟩ (mt_X3_give l dC dI h0 h1 cA s.heap.size u p0 ((f_X3_x u p0) - (f_X3_y u p0))) (cwV 2 hts gX3_55_X3_give rfl rfl rfl (by decide +kernel) ⟨Nat.le_of_ble_eq_true rfl, Nat.le_of_ble_eq_true rfl⟩) (wr_V hK hP hD (ci := 0) (q0 := 0) rfl rfl rfl) rfl rfl hl.1 rfl (lv_room (Nat.le_of_ble_eq_true rfl)) dX3_operateLongs_92 ⟨Nat.le_of_ble_eq_true rfl, Nat.le_of_ble_eq_true rfl⟩) hS hP hD hA [0, 1] [] rfl rfl (by decide) (by decide) (fun r_ v_ H locs hw hP hD hS => ?_)
          obtain ⟨rfl, rfl⟩ := hw
          refine W.eq (g2 := F0 m 95 ls [.int (f_X3_give u p0 ((f_X3_x u p0) - (f_X3_y u p0))).1]) rfl ?_
          have hP : va_P (dC, dI) vwCl (Wc h0 h1 cA (f_X3_give u p0 ((f_X3_x u p0) - (f_X3_y u p0))).2) H := hP
          have hD : va_D A (Wc h0 h1 cA (f_X3_give u p0 ((f_X3_x u p0) - (f_X3_y u p0))).2) := hD
          have hF : f_X3_operateLongs u p0 = ((f_X3_give u p0 ((f_X3_x u p0) - (f_X3_y u p0))).1, (f_X3_give u p0 ((f_X3_x u p0) - (f_X3_y u p0))).2) := by unfold f_X3_operateLongs; rw [if_neg c1, if_neg c2, if_pos c3, if_pos c4]
          exact W.iret (v := (f_X3_give u p0 ((f_X3_x u p0) - (f_X3_y u p0))).1) hx hb hr (fun t ht hW => ⟨⟨(f_X3_give u p0 ((f_X3_x u p0) - (f_X3_y u p0))).1, (f_X3_give u p0 ((f_X3_x u p0) - (f_X3_y u p0))).2, rfl, ⟨(congrArg Prod.fst hF).symm, (congrArg Prod.snd hF).symm⟩, by rw [ht]; exact hP, va_K.moved hW.alike hK, hD⟩, hS.F ht⟩) hS.2.2 dX3_operateLongs_95
      · refine lv_lookup (tgt := 117) (off := 95) hx hb dX3_operateLongs_22 (by decide +kernel) (by show Op.lookupswitch.offset [((0 : Int), (34 : Int)), ((1 : Int), (47 : Int)), ((32 : Int), (60 : Int))] 95 _ = _; rw [lv_osw c1 (k := (0 : Int32)) (by decide), lv_osw c2 (k := (1 : Int32)) (by decide), lv_osw c3 (k := (32 : Int32)) (by decide)]; rfl) (by decide) ?_
        refine lv_iconst (v := (-1 : Int32)) hx hb dX3_operateLongs_117 (by decide) ?_
        have hF : f_X3_operateLongs u p0 = ((-1 : Int32), u) := by unfold f_X3_operateLongs; rw [if_neg c1, if_neg c2, if_neg c3]
        exact W.iret (v := (-1 : Int32)) hx hb hr (fun t ht hW => ⟨⟨(-1 : Int32), u, rfl, ⟨(congrArg Prod.fst hF).symm, (congrArg Prod.snd hF).symm⟩, by rw [ht]; exact hP, va_K.moved hW.alike hK, hD⟩, hS.F ht⟩) hS.2.2 dX3_operateLongs_118

def f_X3_operateIntWithImmediate (u : ScT) (p0 : Int32) : Int32 × ScT :=
  if (f_X2_f p0) = 0 then
    ((f_X3_give u p0 ((f_X3_x u p0).toInt32 + (f_X2_immediateI p0)).toInt64).1, (f_X3_give u p0 ((f_X3_x u p0).toInt32 + (f_X2_immediateI p0)).toInt64).2)
  else if (f_X2_f p0) = (5 : Int32) then
    if (f_X2_g p0) = (32 : Int32) then
      ((f_X3_give u p0 (f_X0_shiftRightWithSign (f_X3_x u p0).toInt32 (f_X2_b p0)).toInt64).1, (f_X3_give u p0 (f_X0_shiftRightWithSign (f_X3_x u p0).toInt32 (f_X2_b p0)).toInt64).2)
    else if (f_X2_f p0) = (1 : Int32) then
      if (f_X2_g p0) = 0 then
        ((f_X3_give u p0 (f_X0_plain (f_X2_f p0) (f_X3_x u p0).toInt32 (f_X2_b p0)).toInt64).1, (f_X3_give u p0 (f_X0_plain (f_X2_f p0) (f_X3_x u p0).toInt32 (f_X2_b p0)).toInt64).2)
      else
        ((-1 : Int32), u)
    else if (f_X2_g p0) = 0 then
      ((f_X3_give u p0 (f_X0_plain (f_X2_f p0) (f_X3_x u p0).toInt32 (f_X2_b p0)).toInt64).1, (f_X3_give u p0 (f_X0_plain (f_X2_f p0) (f_X3_x u p0).toInt32 (f_X2_b p0)).toInt64).2)
    else
      ((-1 : Int32), u)
  else if (f_X2_f p0) = (1 : Int32) then
    if (f_X2_g p0) = 0 then
      ((f_X3_give u p0 (f_X0_plain (f_X2_f p0) (f_X3_x u p0).toInt32 (f_X2_b p0)).toInt64).1, (f_X3_give u p0 (f_X0_plain (f_X2_f p0) (f_X3_x u p0).toInt32 (f_X2_b p0)).toInt64).2)
    else
      ((-1 : Int32), u)
  else
    ((-1 : Int32), u)
set_option maxHeartbeats 4000000 in
set_option maxRecDepth 100000 in
theorem mt_X3_operateIntWithImmediate (l : Launch) (dC : Nat → ClassId) (dI : Nat → Nat → Nat) (h0 h1 : Nat) (cA : ClassId) (sz : Nat) (u : ScT) (p0 : Int32) : Met l yX3_operateIntWithImmediate wsX3_operateIntWithImmediate ({ frames := 3, cells := 0, slots := 0, locals := 66 }) (wr_P [.ref h0, .int p0] (dC, dI) vwCl (Wc h0 h1 cA u) [(cA, .long)] sz) (va_Qi (fun r v => r = (f_X3_operateIntWithImmediate u p0).1 ∧ v = (f_X3_operateIntWithImmediate u p0).2) (wr_B (dC, dI) vwCl [(cA, .long)] (va_A (Wc h0 h1 cA u) sz) (Wc h0 h1 cA)) (va_A (Wc h0 h1 cA u) sz)) 0 0 (va_A (Wc h0 h1 cA u) sz) := by
  refine Met.ofW (cc := cX3_operateIntWithImmediate) (maxL := 5) (ret := (some .int)) (by decide) rfl ?_
  intro p e s m args below meth c s₁ B hml hv
  obtain ⟨rfl, hsz, hP, hK, hD0⟩ := hv
  have hx := B.exec
  have hb := B.bytes
  have hr := B.returns
  have hts0 := atoms_spec (ws := wsX3_operateIntWithImmediate) B.pre
  have hts := fun (w : Cond) (h : w ∈ lw_G) => hts0 w (List.mem_cons_of_mem _ h)
  have hown : s.vm.findClass RX3 = some m.cls := findClass_of_methodNamed B.named
  have hlocks := B.notSynchronized
  subst hsz
  have hD := hD0.self (sz := s.heap.size)
  generalize hAe : va_A (Wc h0 h1 cA u) s.heap.size = A at hD ⊢
  have hA : ∀ q : Nat, s.heap.size ≤ q → A q := fun q h => by rw [← hAe]; exact Or.inr h
  have hS : va_S A s.heap s.heap [] := va_S.rf
  have hl := lv_entry ([.ref h0, .int p0]) (n := 5) (Nat.le_of_ble_eq_true rfl)
  rw [lg_entry_eq]
  generalize (lg_sl ([.ref h0, .int p0]) ++ List.replicate (5 - (lg_sl ([.ref h0, .int p0])).length) Slot.unset).toArray = ls at hl ⊢
  have hl : lv_has ls 5 [(0, .ref h0), (1, .int p0)] := hl
  refine lv_iload_n hx hb dX3_operateIntWithImmediate_0 rfl (lv_at hl 1 rfl) ?_
  refine W.callV (W.runS (As := [.int p0]) (rest := []) ⟨hx, hb, hml, hown, hts⟩ (mt_X2_f l p0) (va_cwS 1 hts gX3_157_X2_f rfl rfl rfl (by decide +kernel) ⟨Nat.le_of_ble_eq_true rfl, Nat.le_of_ble_eq_true rfl⟩) preEq rfl rfl hl.1 rfl (lv_room (Nat.le_of_ble_eq_true rfl)) dX3_operateIntWithImmediate_1 ⟨Nat.le_of_ble_eq_true rfl, Nat.le_of_ble_eq_true rfl⟩) ?_
  refine W.eq (g2 := F0 m 4 ls [.int (f_X2_f p0)]) rfl ?_
  refine lv_istore_n (lv' := [(2, .int (f_X2_f p0)), (0, .ref h0), (1, .int p0)]) hx hb dX3_operateIntWithImmediate_4 rfl hl (by decide) rfl (fun ls hl => ?_)
  refine lv_iload_n hx hb dX3_operateIntWithImmediate_5 rfl (lv_at hl 2 rfl) ?_
  refine W.callV (W.runS (As := [.int p0]) (rest := []) ⟨hx, hb, hml, hown, hts⟩ (mt_X2_g l p0) (va_cwS 1 hts gX3_186_X2_g rfl rfl rfl (by decide +kernel) ⟨Nat.le_of_ble_eq_true rfl, Nat.le_of_ble_eq_true rfl⟩) preEq rfl rfl hl.1 rfl (lv_room (Nat.le_of_ble_eq_true rfl)) dX3_operateIntWithImmediate_6 ⟨Nat.le_of_ble_eq_true rfl, Nat.le_of_ble_eq_true rfl⟩) ?_
  refine W.eq (g2 := F0 m 9 ls [.int (f_X2_g p0)]) rfl ?_
  refine lv_istore_n (lv' := [(3, .int (f_X2_g p0)), (2, .int (f_X2_f p0)), (0, .ref h0), (1, .int p0)]) hx hb dX3_operateIntWithImmediate_9 rfl hl (by decide) rfl (fun ls hl => ?_)
  refine lv_aload_n hx hb dX3_operateIntWithImmediate_10 rfl (lv_at hl 2 rfl) ?_
  refine lv_iload_n hx hb dX3_operateIntWithImmediate_11 rfl (lv_at hl 3 rfl) ?_
  refine W.callV (W.runV (As := [.int p0]) (rest := []) ⟨hx, hb, hml, hown, hts⟩ (mt_X3_x l dC dI h0 h1 cA u p0) (cwV 1 hts gX3_101_X3_x rfl rfl rfl (by decide +kernel) ⟨Nat.le_of_ble_eq_true rfl, Nat.le_of_ble_eq_true rfl⟩) (rd_V hK hP (ci := 0) (q0 := 0) rfl rfl rfl) rfl rfl hl.1 rfl (lv_room (Nat.le_of_ble_eq_true rfl)) dX3_operateIntWithImmediate_12 ⟨Nat.le_of_ble_eq_true rfl, Nat.le_of_ble_eq_true rfl⟩) ?_
  refine W.eq (g2 := F0 m 15 ls [.long (f_X3_x u p0)]) rfl ?_
  refine lv_l2i (v := (f_X3_x u p0).toInt32) hx hb dX3_operateIntWithImmediate_15 rfl ?_
  refine lv_istore (lv' := [(4, .int (f_X3_x u p0).toInt32), (3, .int (f_X2_g p0)), (2, .int (f_X2_f p0)), (0, .ref h0), (1, .int p0)]) hx hb dX3_operateIntWithImmediate_16 hl (by decide) rfl (fun ls hl => ?_)
  refine lv_iload_n hx hb dX3_operateIntWithImmediate_18 rfl (lv_at hl 2 rfl) ?_
  refine lv_if_ne (tgt := 36) hx hb dX3_operateIntWithImmediate_19 (by decide) (fun c1 => ?_) (fun c1 => ?_)
  · refine lv_iload_n hx hb dX3_operateIntWithImmediate_36 rfl (lv_at hl 2 rfl) ?_
    refine lv_iconst (v := (5 : Int32)) hx hb dX3_operateIntWithImmediate_37 (by decide) ?_
    refine lv_icmp_ne (tgt := 63) hx hb dX3_operateIntWithImmediate_38 (by decide) (fun c2 => ?_) (fun c2 => ?_)
    · refine lv_iload_n hx hb dX3_operateIntWithImmediate_63 rfl (lv_at hl 2 rfl) ?_
      refine lv_iconst (v := (1 : Int32)) hx hb dX3_operateIntWithImmediate_64 (by decide) ?_
      refine lv_icmp_eq (tgt := 73) hx hb dX3_operateIntWithImmediate_65 (by decide) (fun c3 => ?_) (fun c3 => ?_)
      · refine lv_iload_n hx hb dX3_operateIntWithImmediate_73 rfl (lv_at hl 1 rfl) ?_
        refine lv_if_ne (tgt := 94) hx hb dX3_operateIntWithImmediate_74 (by decide) (fun c4 => ?_) (fun c4 => ?_)
        · refine lv_iconst (v := (-1 : Int32)) hx hb dX3_operateIntWithImmediate_94 (by decide) ?_
          have hF : f_X3_operateIntWithImmediate u p0 = ((-1 : Int32), u) := by unfold f_X3_operateIntWithImmediate; rw [if_neg c1, if_neg c2, if_pos c3, if_neg c4]
          exact W.iret (v := (-1 : Int32)) hx hb hr (fun t ht hW => ⟨⟨(-1 : Int32), u, rfl, ⟨(congrArg Prod.fst hF).symm, (congrArg Prod.snd hF).symm⟩, by rw [ht]; exact hP, va_K.moved hW.alike hK, hD⟩, hS.F ht⟩) hS.2.2 dX3_operateIntWithImmediate_95
        · refine lv_aload_n hx hb dX3_operateIntWithImmediate_77 rfl (lv_at hl 3 rfl) ?_
          refine lv_iload_n hx hb dX3_operateIntWithImmediate_78 rfl (lv_at hl 4 rfl) ?_
          refine lv_iload_n hx hb dX3_operateIntWithImmediate_79 rfl (lv_at hl 2 rfl) ?_
          refine lv_iload hx hb dX3_operateIntWithImmediate_80 (lv_at hl 0 rfl) ?_
          refine lv_iload_n hx hb dX3_operateIntWithImmediate_82 rfl (lv_at hl 4 rfl) ?_
          refine W.callV (W.runS (As := [.int p0]) (rest := [.int (f_X3_x u p0).toInt32, .int (f_X2_f p0), .int p0, .ref h0]) ⟨hx, hb, hml, hown, hts⟩ (mt_X2_b l p0) (va_cwS 1 hts gX3_154_X2_b rfl rfl rfl (by decide +kernel) ⟨Nat.le_of_ble_eq_true rfl, Nat.le_of_ble_eq_true rfl⟩) preEq rfl rfl hl.1 rfl (lv_room (Nat.le_of_ble_eq_true rfl)) dX3_operateIntWithImmediate_83 ⟨Nat.le_of_ble_eq_true rfl, Nat.le_of_ble_eq_true rfl⟩) ?_
          refine W.eq (g2 := F0 m 86 ls [.int (f_X2_b p0), .int (f_X3_x u p0).toInt32, .int (f_X2_f p0), .int p0, .ref h0]) rfl ?_
          refine W.callV (W.runS (As := [.int (f_X2_f p0), .int (f_X3_x u p0).toInt32, .int (f_X2_b p0)]) (rest := [.int p0, .ref h0]) ⟨hx, hb, hml, hown, hts⟩ (mt_X0_plain l (f_X2_f p0) (f_X3_x u p0).toInt32 (f_X2_b p0)) (va_cwS 3 hts gX3_197_X0_plain rfl rfl rfl (by decide +kernel) ⟨Nat.le_of_ble_eq_true rfl, Nat.le_of_ble_eq_true rfl⟩) preEq rfl rfl hl.1 rfl (lv_room (Nat.le_of_ble_eq_true rfl)) dX3_operateIntWithImmediate_86 ⟨Nat.le_of_ble_eq_true rfl, Nat.le_of_ble_eq_true rfl⟩) ?_
          refine W.eq (g2 := F0 m 89 ls [.int (f_X0_plain (f_X2_f p0) (f_X3_x u p0).toInt32 (f_X2_b p0)), .int p0, .ref h0]) rfl ?_
          refine lv_i2l (v := (f_X0_plain (f_X2_f p0) (f_X3_x u p0).toInt32 (f_X2_b p0)).toInt64) hx hb dX3_operateIntWithImmediate_89 rfl ?_
          refine wr_calli (wr := []) (va_runV (As := [.int p0, .long (f_X0_plain (f_X2_f p0) (f_X3_x u p0).toInt32 (f_X2_b p0)).toInt64]) (rest := []) ⟨hx, hb, hml, hown, hts⟩ (mt_X3_give l dC dI h0 h1 cA s.heap.size u p0 (f_X0_plain (f_X2_f p0) (f_X3_x u p0).toInt32 (f_X2_b p0)).toInt64) (cwV 2 hts gX3_55_X3_give rfl rfl rfl (by decide +kernel) ⟨Nat.le_of_ble_eq_true rfl, Nat.le_of_ble_eq_true rfl⟩) (wr_V hK hP hD (ci := 0) (q0 := 0) rfl rfl rfl) rfl rfl hl.1 rfl (lv_room (Nat.le_of_ble_eq_true rfl)) dX3_operateIntWithImmediate_90 ⟨Nat.le_of_ble_eq_true rfl, Nat.le_of_ble_eq_true rfl⟩) hS hP hD hA [0, 1] [] rfl rfl (by decide) (by decide) (fun r_ v_ H locs hw hP hD hS => ?_)
          obtain ⟨rfl, rfl⟩ := hw
          refine W.eq (g2 := F0 m 93 ls [.int (f_X3_give u p0 (f_X0_plain (f_X2_f p0) (f_X3_x u p0).toInt32 (f_X2_b p0)).toInt64).1]) rfl ?_
          have hP : va_P (dC, dI) vwCl (Wc h0 h1 cA (f_X3_give u p0 (f_X0_plain (f_X2_f p0) (f_X3_x u p0).toInt32 (f_X2_b p0)).toInt64).2) H := hP
          have hD : va_D A (Wc h0 h1 cA (f_X3_give u p0 (f_X0_plain (f_X2_f p0) (f_X3_x u p0).toInt32 (f_X2_b p0)).toInt64).2) := hD
          have hF : f_X3_operateIntWithImmediate u p0 = ((f_X3_give u p0 (f_X0_plain (f_X2_f p0) (f_X3_x u p0).toInt32 (f_X2_b p0)).toInt64).1, (f_X3_give u p0 (f_X0_plain (f_X2_f p0) (f_X3_x u p0).toInt32 (f_X2_b p0)).toInt64).2) := by unfold f_X3_operateIntWithImmediate; rw [if_neg c1, if_neg c2, if_pos c3, if_pos c4]
          exact W.iret (v := (f_X3_give u p0 (f_X0_plain (f_X2_f p0) (f_X3_x u p0).toInt32 (f_X2_b p0)).toInt64).1) hx hb hr (fun t ht hW => ⟨⟨(f_X3_give u p0 (f_X0_plain (f_X2_f p0) (f_X3_x u p0).toInt32 (f_X2_b p0)).toInt64).1, (f_X3_give u p0 (f_X0_plain (f_X2_f p0) (f_X3_x u p0).toInt32 (f_X2_b p0)).toInt64).2, rfl, ⟨(congrArg Prod.fst hF).symm, (congrArg Prod.snd hF).symm⟩, by rw [ht]; exact hP, va_K.moved hW.alike hK, hD⟩, hS.F ht⟩) hS.2.2 dX3_operateIntWithImmediate_93
      · refine lv_iload_n hx hb dX3_operateIntWithImmediate_68 rfl (lv_at hl 2 rfl) ?_
        refine lv_iconst (v := (5 : Int32)) hx hb dX3_operateIntWithImmediate_69 (by decide) ?_
        refine lv_icmp_ne (tgt := 94) hx hb dX3_operateIntWithImmediate_70 (by decide) (fun _ => ?_) (fun c_ => absurd c_ c2)
        refine lv_iconst (v := (-1 : Int32)) hx hb dX3_operateIntWithImmediate_94 (by decide) ?_
        have hF : f_X3_operateIntWithImmediate u p0 = ((-1 : Int32), u) := by unfold f_X3_operateIntWithImmediate; rw [if_neg c1, if_neg c2, if_neg c3]
        exact W.iret (v := (-1 : Int32)) hx hb hr (fun t ht hW => ⟨⟨(-1 : Int32), u, rfl, ⟨(congrArg Prod.fst hF).symm, (congrArg Prod.snd hF).symm⟩, by rw [ht]; exact hP, va_K.moved hW.alike hK, hD⟩, hS.F ht⟩) hS.2.2 dX3_operateIntWithImmediate_95
    · refine lv_iload_n hx hb dX3_operateIntWithImmediate_41 rfl (lv_at hl 1 rfl) ?_
      refine lv_bipush (v := (32 : Int32)) hx hb dX3_operateIntWithImmediate_42 (by decide) ?_
      refine lv_icmp_ne (tgt := 63) hx hb dX3_operateIntWithImmediate_44 (by decide) (fun c5 => ?_) (fun c5 => ?_)
      · refine lv_iload_n hx hb dX3_operateIntWithImmediate_63 rfl (lv_at hl 2 rfl) ?_
        refine lv_iconst (v := (1 : Int32)) hx hb dX3_operateIntWithImmediate_64 (by decide) ?_
        refine lv_icmp_eq (tgt := 73) hx hb dX3_operateIntWithImmediate_65 (by decide) (fun c6 => ?_) (fun c6 => ?_)
        · refine lv_iload_n hx hb dX3_operateIntWithImmediate_73 rfl (lv_at hl 1 rfl) ?_
          refine lv_if_ne (tgt := 94) hx hb dX3_operateIntWithImmediate_74 (by decide) (fun c7 => ?_) (fun c7 => ?_)
          · refine lv_iconst (v := (-1 : Int32)) hx hb dX3_operateIntWithImmediate_94 (by decide) ?_
            have hF : f_X3_operateIntWithImmediate u p0 = ((-1 : Int32), u) := by unfold f_X3_operateIntWithImmediate; rw [if_neg c1, if_pos c2, if_neg c5, if_pos c6, if_neg c7]
            exact W.iret (v := (-1 : Int32)) hx hb hr (fun t ht hW => ⟨⟨(-1 : Int32), u, rfl, ⟨(congrArg Prod.fst hF).symm, (congrArg Prod.snd hF).symm⟩, by rw [ht]; exact hP, va_K.moved hW.alike hK, hD⟩, hS.F ht⟩) hS.2.2 dX3_operateIntWithImmediate_95
          · refine lv_aload_n hx hb dX3_operateIntWithImmediate_77 rfl (lv_at hl 3 rfl) ?_
            refine lv_iload_n hx hb dX3_operateIntWithImmediate_78 rfl (lv_at hl 4 rfl) ?_
            refine lv_iload_n hx hb dX3_operateIntWithImmediate_79 rfl (lv_at hl 2 rfl) ?_
            refine lv_iload hx hb dX3_operateIntWithImmediate_80 (lv_at hl 0 rfl) ?_
            refine lv_iload_n hx hb dX3_operateIntWithImmediate_82 rfl (lv_at hl 4 rfl) ?_
            refine W.callV (W.runS (As := [.int p0]) (rest := [.int (f_X3_x u p0).toInt32, .int (f_X2_f p0), .int p0, .ref h0]) ⟨hx, hb, hml, hown, hts⟩ (mt_X2_b l p0) (va_cwS 1 hts gX3_154_X2_b rfl rfl rfl (by decide +kernel) ⟨Nat.le_of_ble_eq_true rfl, Nat.le_of_ble_eq_true rfl⟩) preEq rfl rfl hl.1 rfl (lv_room (Nat.le_of_ble_eq_true rfl)) dX3_operateIntWithImmediate_83 ⟨Nat.le_of_ble_eq_true rfl, Nat.le_of_ble_eq_true rfl⟩) ?_
            refine W.eq (g2 := F0 m 86 ls [.int (f_X2_b p0), .int (f_X3_x u p0).toInt32, .int (f_X2_f p0), .int p0, .ref h0]) rfl ?_
            refine W.callV (W.runS (As := [.int (f_X2_f p0), .int (f_X3_x u p0).toInt32, .int (f_X2_b p0)]) (rest := [.int p0, .ref h0]) ⟨hx, hb, hml, hown, hts⟩ (mt_X0_plain l (f_X2_f p0) (f_X3_x u p0).toInt32 (f_X2_b p0)) (va_cwS 3 hts gX3_197_X0_plain rfl rfl rfl (by decide +kernel) ⟨Nat.le_of_ble_eq_true rfl, Nat.le_of_ble_eq_true rfl⟩) preEq rfl rfl hl.1 rfl (lv_room (Nat.le_of_ble_eq_true rfl)) dX3_operateIntWithImmediate_86 ⟨Nat.le_of_ble_eq_true rfl, Nat.le_of_ble_eq_true rfl⟩) ?_
            refine W.eq (g2 := F0 m 89 ls [.int (f_X0_plain (f_X2_f p0) (f_X3_x u p0).toInt32 (f_X2_b p0)), .int p0, .ref h0]) rfl ?_
            refine lv_i2l (v := (f_X0_plain (f_X2_f p0) (f_X3_x u p0).toInt32 (f_X2_b p0)).toInt64) hx hb dX3_operateIntWithImmediate_89 rfl ?_
            refine wr_calli (wr := []) (va_runV (As := [.int p0, .long (f_X0_plain (f_X2_f p0) (f_X3_x u p0).toInt32 (f_X2_b p0)).toInt64]) (rest := []) ⟨hx, hb, hml, hown, hts⟩ (mt_X3_give l dC dI h0 h1 cA s.heap.size u p0 (f_X0_plain (f_X2_f p0) (f_X3_x u p0).toInt32 (f_X2_b p0)).toInt64) (cwV 2 hts gX3_55_X3_give rfl rfl rfl (by decide +kernel) ⟨Nat.le_of_ble_eq_true rfl, Nat.le_of_ble_eq_true rfl⟩) (wr_V hK hP hD (ci := 0) (q0 := 0) rfl rfl rfl) rfl rfl hl.1 rfl (lv_room (Nat.le_of_ble_eq_true rfl)) dX3_operateIntWithImmediate_90 ⟨Nat.le_of_ble_eq_true rfl, Nat.le_of_ble_eq_true rfl⟩) hS hP hD hA [0, 1] [] rfl rfl (by decide) (by decide) (fun r_ v_ H locs hw hP hD hS => ?_)
            obtain ⟨rfl, rfl⟩ := hw
            refine W.eq (g2 := F0 m 93 ls [.int (f_X3_give u p0 (f_X0_plain (f_X2_f p0) (f_X3_x u p0).toInt32 (f_X2_b p0)).toInt64).1]) rfl ?_
            have hP : va_P (dC, dI) vwCl (Wc h0 h1 cA (f_X3_give u p0 (f_X0_plain (f_X2_f p0) (f_X3_x u p0).toInt32 (f_X2_b p0)).toInt64).2) H := hP
            have hD : va_D A (Wc h0 h1 cA (f_X3_give u p0 (f_X0_plain (f_X2_f p0) (f_X3_x u p0).toInt32 (f_X2_b p0)).toInt64).2) := hD
            have hF : f_X3_operateIntWithImmediate u p0 = ((f_X3_give u p0 (f_X0_plain (f_X2_f p0) (f_X3_x u p0).toInt32 (f_X2_b p0)).toInt64).1, (f_X3_give u p0 (f_X0_plain (f_X2_f p0) (f_X3_x u p0).toInt32 (f_X2_b p0)).toInt64).2) := by unfold f_X3_operateIntWithImmediate; rw [if_neg c1, if_pos c2, if_neg c5, if_pos c6, if_pos c7]
            exact W.iret (v := (f_X3_give u p0 (f_X0_plain (f_X2_f p0) (f_X3_x u p0).toInt32 (f_X2_b p0)).toInt64).1) hx hb hr (fun t ht hW => ⟨⟨(f_X3_give u p0 (f_X0_plain (f_X2_f p0) (f_X3_x u p0).toInt32 (f_X2_b p0)).toInt64).1, (f_X3_give u p0 (f_X0_plain (f_X2_f p0) (f_X3_x u p0).toInt32 (f_X2_b p0)).toInt64).2, rfl, ⟨(congrArg Prod.fst hF).symm, (congrArg Prod.snd hF).symm⟩, by rw [ht]; exact hP, va_K.moved hW.alike hK, hD⟩, hS.F ht⟩) hS.2.2 dX3_operateIntWithImmediate_93
        · refine lv_iload_n hx hb dX3_operateIntWithImmediate_68 rfl (lv_at hl 2 rfl) ?_
          refine lv_iconst (v := (5 : Int32)) hx hb dX3_operateIntWithImmediate_69 (by decide) ?_
          refine lv_icmp_ne (tgt := 94) hx hb dX3_operateIntWithImmediate_70 (by decide) (fun c_ => absurd c2 c_) (fun _ => ?_)
          refine lv_iload_n hx hb dX3_operateIntWithImmediate_73 rfl (lv_at hl 1 rfl) ?_
          refine lv_if_ne (tgt := 94) hx hb dX3_operateIntWithImmediate_74 (by decide) (fun c8 => ?_) (fun c8 => ?_)
          · refine lv_iconst (v := (-1 : Int32)) hx hb dX3_operateIntWithImmediate_94 (by decide) ?_
            have hF : f_X3_operateIntWithImmediate u p0 = ((-1 : Int32), u) := by unfold f_X3_operateIntWithImmediate; rw [if_neg c1, if_pos c2, if_neg c5, if_neg c6, if_neg c8]
            exact W.iret (v := (-1 : Int32)) hx hb hr (fun t ht hW => ⟨⟨(-1 : Int32), u, rfl, ⟨(congrArg Prod.fst hF).symm, (congrArg Prod.snd hF).symm⟩, by rw [ht]; exact hP, va_K.moved hW.alike hK, hD⟩, hS.F ht⟩) hS.2.2 dX3_operateIntWithImmediate_95
          · refine lv_aload_n hx hb dX3_operateIntWithImmediate_77 rfl (lv_at hl 3 rfl) ?_
            refine lv_iload_n hx hb dX3_operateIntWithImmediate_78 rfl (lv_at hl 4 rfl) ?_
            refine lv_iload_n hx hb dX3_operateIntWithImmediate_79 rfl (lv_at hl 2 rfl) ?_
            refine lv_iload hx hb dX3_operateIntWithImmediate_80 (lv_at hl 0 rfl) ?_
            refine lv_iload_n hx hb dX3_operateIntWithImmediate_82 rfl (lv_at hl 4 rfl) ?_
            refine W.callV (W.runS (As := [.int p0]) (rest := [.int (f_X3_x u p0).toInt32, .int (f_X2_f p0), .int p0, .ref h0]) ⟨hx, hb, hml, hown, hts⟩ (mt_X2_b l p0) (va_cwS 1 hts gX3_154_X2_b rfl rfl rfl (by decide +kernel) ⟨Nat.le_of_ble_eq_true rfl, Nat.le_of_ble_eq_true rfl⟩) preEq rfl rfl hl.1 rfl (lv_room (Nat.le_of_ble_eq_true rfl)) dX3_operateIntWithImmediate_83 ⟨Nat.le_of_ble_eq_true rfl, Nat.le_of_ble_eq_true rfl⟩) ?_
            refine W.eq (g2 := F0 m 86 ls [.int (f_X2_b p0), .int (f_X3_x u p0).toInt32, .int (f_X2_f p0), .int p0, .ref h0]) rfl ?_
            refine W.callV (W.runS (As := [.int (f_X2_f p0), .int (f_X3_x u p0).toInt32, .int (f_X2_b p0)]) (rest := [.int p0, .ref h0]) ⟨hx, hb, hml, hown, hts⟩ (mt_X0_plain l (f_X2_f p0) (f_X3_x u p0).toInt32 (f_X2_b p0)) (va_cwS 3 hts gX3_197_X0_plain rfl rfl rfl (by decide +kernel) ⟨Nat.le_of_ble_eq_true rfl, Nat.le_of_ble_eq_true rfl⟩) preEq rfl rfl hl.1 rfl (lv_room (Nat.le_of_ble_eq_true rfl)) dX3_operateIntWithImmediate_86 ⟨Nat.le_of_ble_eq_true rfl, Nat.le_of_ble_eq_true rfl⟩) ?_
            refine W.eq (g2 := F0 m 89 ls [.int (f_X0_plain (f_X2_f p0) (f_X3_x u p0).toInt32 (f_X2_b p0)), .int p0, .ref h0]) rfl ?_
            refine lv_i2l (v := (f_X0_plain (f_X2_f p0) (f_X3_x u p0).toInt32 (f_X2_b p0)).toInt64) hx hb dX3_operateIntWithImmediate_89 rfl ?_
            refine wr_calli (wr := []) (va_runV (As := [.int p0, .long (f_X0_plain (f_X2_f p0) (f_X3_x u p0).toInt32 (f_X2_b p0)).toInt64]) (rest := []) ⟨hx, hb, hml, hown, hts⟩ (mt_X3_give l dC dI h0 h1 cA s.heap.size u p0 (f_X0_plain (f_X2_f p0) (f_X3_x u p0).toInt32 (f_X2_b p0)).toInt64) (cwV 2 hts gX3_55_X3_give rfl rfl rfl (by decide +kernel) ⟨Nat.le_of_ble_eq_true rfl, Nat.le_of_ble_eq_true rfl⟩) (wr_V hK hP hD (ci := 0) (q0 := 0) rfl rfl rfl) rfl rfl hl.1 rfl (lv_room (Nat.le_of_ble_eq_true rfl)) dX3_operateIntWithImmediate_90 ⟨Nat.le_of_ble_eq_true rfl, Nat.le_of_ble_eq_true rfl⟩) hS hP hD hA [0, 1] [] rfl rfl (by decide) (by decide) (fun r_ v_ H locs hw hP hD hS => ?_)
            obtain ⟨rfl, rfl⟩ := hw
            refine W.eq (g2 := F0 m 93 ls [.int (f_X3_give u p0 (f_X0_plain (f_X2_f p0) (f_X3_x u p0).toInt32 (f_X2_b p0)).toInt64).1]) rfl ?_
            have hP : va_P (dC, dI) vwCl (Wc h0 h1 cA (f_X3_give u p0 (f_X0_plain (f_X2_f p0) (f_X3_x u p0).toInt32 (f_X2_b p0)).toInt64).2) H := hP
            have hD : va_D A (Wc h0 h1 cA (f_X3_give u p0 (f_X0_plain (f_X2_f p0) (f_X3_x u p0).toInt32 (f_X2_b p0)).toInt64).2) := hD
            have hF : f_X3_operateIntWithImmediate u p0 = ((f_X3_give u p0 (f_X0_plain (f_X2_f p0) (f_X3_x u p0).toInt32 (f_X2_b p0)).toInt64).1, (f_X3_give u p0 (f_X0_plain (f_X2_f p0) (f_X3_x u p0).toInt32 (f_X2_b p0)).toInt64).2) := by unfold f_X3_operateIntWithImmediate; rw [if_neg c1, if_pos c2, if_neg c5, if_neg c6, if_pos c8]
            exact W.iret (v := (f_X3_give u p0 (f_X0_plain (f_X2_f p0) (f_X3_x u p0).toInt32 (f_X2_b p0)).toInt64).1) hx hb hr (fun t ht hW => ⟨⟨(f_X3_give u p0 (f_X0_plain (f_X2_f p0) (f_X3_x u p0).toInt32 (f_X2_b p0)).toInt64).1, (f_X3_give u p0 (f_X0_plain (f_X2_f p0) (f_X3_x u p0).toInt32 (f_X2_b p0)).toInt64).2, rfl, ⟨(congrArg Prod.fst hF).symm, (congrArg Prod.snd hF).symm⟩, by rw [ht]; exact hP, va_K.moved hW.alike hK, hD⟩, hS.F ht⟩) hS.2.2 dX3_operateIntWithImmediate_93
      · refine lv_aload_n hx hb dX3_operateIntWithImmediate_47 rfl (lv_at hl 3 rfl) ?_
        refine lv_iload_n hx hb dX3_operateIntWithImmediate_48 rfl (lv_at hl 4 rfl) ?_
        refine lv_iload hx hb dX3_operateIntWithImmediate_49 (lv_at hl 0 rfl) ?_
        refine lv_iload_n hx hb dX3_operateIntWithImmediate_51 rfl (lv_at hl 4 rfl) ?_
        refine W.callV (W.runS (As := [.int p0]) (rest := [.int (f_X3_x u p0).toInt32, .int p0, .ref h0]) ⟨hx, hb, hml, hown, hts⟩ (mt_X2_b l p0) (va_cwS 1 hts gX3_154_X2_b rfl rfl rfl (by decide +kernel) ⟨Nat.le_of_ble_eq_true rfl, Nat.le_of_ble_eq_true rfl⟩) preEq rfl rfl hl.1 rfl (lv_room (Nat.le_of_ble_eq_true rfl)) dX3_operateIntWithImmediate_52 ⟨Nat.le_of_ble_eq_true rfl, Nat.le_of_ble_eq_true rfl⟩) ?_
        refine W.eq (g2 := F0 m 55 ls [.int (f_X2_b p0), .int (f_X3_x u p0).toInt32, .int p0, .ref h0]) rfl ?_
        refine W.callV (W.runS (As := [.int (f_X3_x u p0).toInt32, .int (f_X2_b p0)]) (rest := [.int p0, .ref h0]) ⟨hx, hb, hml, hown, hts⟩ (mt_X0_shiftRightWithSign l (f_X3_x u p0).toInt32 (f_X2_b p0)) (va_cwS 2 hts gX3_192_X0_shiftRightWithSign rfl rfl rfl (by decide +kernel) ⟨Nat.le_of_ble_eq_true rfl, Nat.le_of_ble_eq_true rfl⟩) preEq rfl rfl hl.1 rfl (lv_room (Nat.le_of_ble_eq_true rfl)) dX3_operateIntWithImmediate_55 ⟨Nat.le_of_ble_eq_true rfl, Nat.le_of_ble_eq_true rfl⟩) ?_
        refine W.eq (g2 := F0 m 58 ls [.int (f_X0_shiftRightWithSign (f_X3_x u p0).toInt32 (f_X2_b p0)), .int p0, .ref h0]) rfl ?_
        refine lv_i2l (v := (f_X0_shiftRightWithSign (f_X3_x u p0).toInt32 (f_X2_b p0)).toInt64) hx hb dX3_operateIntWithImmediate_58 rfl ?_
        refine wr_calli (wr := []) (va_runV (As := [.int p0, .long (f_X0_shiftRightWithSign (f_X3_x u p0).toInt32 (f_X2_b p0)).toInt64]) (rest := []) ⟨hx, hb, hml, hown, hts⟩ (mt_X3_give l dC dI h0 h1 cA s.heap.size u p0 (f_X0_shiftRightWithSign (f_X3_x u p0).toInt32 (f_X2_b p0)).toInt64) (cwV 2 hts gX3_55_X3_give rfl rfl rfl (by decide +kernel) ⟨Nat.le_of_ble_eq_true rfl, Nat.le_of_ble_eq_true rfl⟩) (wr_V hK hP hD (ci := 0) (q0 := 0) rfl rfl rfl) rfl rfl hl.1 rfl (lv_room (Nat.le_of_ble_eq_true rfl)) dX3_operateIntWithImmediate_59 ⟨Nat.le_of_ble_eq_true rfl, Nat.le_of_ble_eq_true rfl⟩) hS hP hD hA [0, 1] [] rfl rfl (by decide) (by decide) (fun r_ v_ H locs hw hP hD hS => ?_)
        obtain ⟨rfl, rfl⟩ := hw
        refine W.eq (g2 := F0 m 62 ls [.int (f_X3_give u p0 (f_X0_shiftRightWithSign (f_X3_x u p0).toInt32 (f_X2_b p0)).toInt64).1]) rfl ?_
        have hP : va_P (dC, dI) vwCl (Wc h0 h1 cA (f_X3_give u p0 (f_X0_shiftRightWithSign (f_X3_x u p0).toInt32 (f_X2_b p0)).toInt64).2) H := hP
        have hD : va_D A (Wc h0 h1 cA (f_X3_give u p0 (f_X0_shiftRightWithSign (f_X3_x u p0).toInt32 (f_X2_b p0)).toInt64).2) := hD
        have hF : f_X3_operateIntWithImmediate u p0 = ((f_X3_give u p0 (f_X0_shiftRightWithSign (f_X3_x u p0).toInt32 (f_X2_b p0)).toInt64).1, (f_X3_give u p0 (f_X0_shiftRightWithSign (f_X3_x u p0).toInt32 (f_X2_b p0)).toInt64).2) := by unfold f_X3_operateIntWithImmediate; rw [if_neg c1, if_pos c2, if_pos c5]
        exact W.iret (v := (f_X3_give u p0 (f_X0_shiftRightWithSign (f_X3_x u p0).toInt32 (f_X2_b p0)).toInt64).1) hx hb hr (fun t ht hW => ⟨⟨(f_X3_give u p0 (f_X0_shiftRightWithSign (f_X3_x u p0).toInt32 (f_X2_b p0)).toInt64).1, (f_X3_give u p0 (f_X0_shiftRightWithSign (f_X3_x u p0).toInt32 (f_X2_b p0)).toInt64).2, rfl, ⟨(congrArg Prod.fst hF).symm, (congrArg Prod.snd hF).symm⟩, by rw [ht]; exact hP, va_K.moved hW.alike hK, hD⟩, hS.F ht⟩) hS.2.2 dX3_operateIntWithImmediate_62
  · refine lv_aload_n hx hb dX3_operateIntWithImmediate_22 rfl (lv_at hl 3 rfl) ?_
    refine lv_iload_n hx hb dX3_operateIntWithImmediate_23 rfl (lv_at hl 4 rfl) ?_
    refine lv_iload hx hb dX3_operateIntWithImmediate_24 (lv_at hl 0 rfl) ?_
    refine lv_iload_n hx hb dX3_operateIntWithImmediate_26 rfl (lv_at hl 4 rfl) ?_
    refine W.callV (W.runS (As := [.int p0]) (rest := [.int (f_X3_x u p0).toInt32, .int p0, .ref h0]) ⟨hx, hb, hml, hown, hts⟩ (mt_X2_immediateI l p0) (va_cwS 1 hts gX3_160_X2_immediateI rfl rfl rfl (by decide +kernel) ⟨Nat.le_of_ble_eq_true rfl, Nat.le_of_ble_eq_true rfl⟩) preEq rfl rfl hl.1 rfl (lv_room (Nat.le_of_ble_eq_true rfl)) dX3_operateIntWithImmediate_27 ⟨Nat.le_of_ble_eq_true rfl, Nat.le_of_ble_eq_true rfl⟩) ?_
    refine W.eq (g2 := F0 m 30 ls [.int (f_X2_immediateI p0), .int (f_X3_x u p0).toInt32, .int p0, .ref h0]) rfl ?_
    refine lv_iadd hx hb dX3_operateIntWithImmediate_30 ?_
    refine lv_i2l (v := ((f_X3_x u p0).toInt32 + (f_X2_immediateI p0)).toInt64) hx hb dX3_operateIntWithImmediate_31 rfl ?_
    refine wr_calli (wr := []) (va_runV (As := [.int p0, .long ((f_X3_x u p0).toInt32 + (f_X2_immediateI p0)).toInt64]) (rest := []) ⟨hx, hb, hml, hown, hts⟩ (mt_X3_give l dC dI h0 h1 cA s.heap.size u p0 ((f_X3_x u p0).toInt32 + (f_X2_immediateI p0)).toInt64) (cwV 2 hts gX3_55_X3_give rfl rfl rfl (by decide +kernel) ⟨Nat.le_of_ble_eq_true rfl, Nat.le_of_ble_eq_true rfl⟩) (wr_V hK hP hD (ci := 0) (q0 := 0) rfl rfl rfl) rfl rfl hl.1 rfl (lv_room (Nat.le_of_ble_eq_true rfl)) dX3_operateIntWithImmediate_32 ⟨Nat.le_of_ble_eq_true rfl, Nat.le_of_ble_eq_true rfl⟩) hS hP hD hA [0, 1] [] rfl rfl (by decide) (by decide) (fun r_ v_ H locs hw hP hD hS => ?_)
    obtain ⟨rfl, rfl⟩ := hw
    refine W.eq (g2 := F0 m 35 ls [.int (f_X3_give u p0 ((f_X3_x u p0).toInt32 + (f_X2_immediateI p0)).toInt64).1]) rfl ?_
    have hP : va_P (dC, dI) vwCl (Wc h0 h1 cA (f_X3_give u p0 ((f_X3_x u p0).toInt32 + (f_X2_immediateI p0)).toInt64).2) H := hP
    have hD : va_D A (Wc h0 h1 cA (f_X3_give u p0 ((f_X3_x u p0).toInt32 + (f_X2_immediateI p0)).toInt64).2) := hD
    have hF : f_X3_operateIntWithImmediate u p0 = ((f_X3_give u p0 ((f_X3_x u p0).toInt32 + (f_X2_immediateI p0)).toInt64).1, (f_X3_give u p0 ((f_X3_x u p0).toInt32 + (f_X2_immediateI p0)).toInt64).2) := by unfold f_X3_operateIntWithImmediate; rw [if_pos c1]
    exact W.iret (v := (f_X3_give u p0 ((f_X3_x u p0).toInt32 + (f_X2_immediateI p0)).toInt64).1) hx hb hr (fun t ht hW => ⟨⟨(f_X3_give u p0 ((f_X3_x u p0).toInt32 + (f_X2_immediateI p0)).toInt64).1, (f_X3_give u p0 ((f_X3_x u p0).toInt32 + (f_X2_immediateI p0)).toInt64).2, rfl, ⟨(congrArg Prod.fst hF).symm, (congrArg Prod.snd hF).symm⟩, by rw [ht]; exact hP, va_K.moved hW.alike hK, hD⟩, hS.F ht⟩) hS.2.2 dX3_operateIntWithImmediate_35

def f_X3_operateInts (u : ScT) (p0 : Int32) : Int32 × ScT :=
  if (f_X2_g p0) = (0 : Int32) then
    if (f_X2_f p0) = 0 then
      ((f_X3_give u p0 (f_X0_plain (f_X2_f p0) (f_X3_x u p0).toInt32 (f_X3_y u p0).toInt32).toInt64).1, (f_X3_give u p0 (f_X0_plain (f_X2_f p0) (f_X3_x u p0).toInt32 (f_X3_y u p0).toInt32).toInt64).2)
    else if (f_X2_f p0) = (1 : Int32) then
      ((f_X3_give u p0 (f_X0_plain (f_X2_f p0) (f_X3_x u p0).toInt32 (f_X3_y u p0).toInt32).toInt64).1, (f_X3_give u p0 (f_X0_plain (f_X2_f p0) (f_X3_x u p0).toInt32 (f_X3_y u p0).toInt32).toInt64).2)
    else if (f_X2_f p0) = (5 : Int32) then
      ((f_X3_give u p0 (f_X0_plain (f_X2_f p0) (f_X3_x u p0).toInt32 (f_X3_y u p0).toInt32).toInt64).1, (f_X3_give u p0 (f_X0_plain (f_X2_f p0) (f_X3_x u p0).toInt32 (f_X3_y u p0).toInt32).toInt64).2)
    else
      ((-1 : Int32), u)
  else if (f_X2_g p0) = (1 : Int32) then
    if (f_X2_f p0) = 0 then
      ((f_X3_give u p0 (f_X0_product (f_X2_f p0) (f_X3_x u p0).toInt32 (f_X3_y u p0).toInt32).toInt64).1, (f_X3_give u p0 (f_X0_product (f_X2_f p0) (f_X3_x u p0).toInt32 (f_X3_y u p0).toInt32).toInt64).2)
    else if (f_X2_f p0) < (4 : Int32) then
      ((-1 : Int32), u)
    else
      ((f_X3_give u p0 (f_X0_product (f_X2_f p0) (f_X3_x u p0).toInt32 (f_X3_y u p0).toInt32).toInt64).1, (f_X3_give u p0 (f_X0_product (f_X2_f p0) (f_X3_x u p0).toInt32 (f_X3_y u p0).toInt32).toInt64).2)
  else if (f_X2_g p0) = (32 : Int32) then
    if (f_X2_f p0) = 0 then
      ((f_X3_give u p0 ((f_X3_x u p0).toInt32 - (f_X3_y u p0).toInt32).toInt64).1, (f_X3_give u p0 ((f_X3_x u p0).toInt32 - (f_X3_y u p0).toInt32).toInt64).2)
    else if (f_X2_f p0) = (5 : Int32) then
      ((f_X3_give u p0 (f_X0_shiftRightWithSign (f_X3_x u p0).toInt32 (f_X3_y u p0).toInt32).toInt64).1, (f_X3_give u p0 (f_X0_shiftRightWithSign (f_X3_x u p0).toInt32 (f_X3_y u p0).toInt32).toInt64).2)
    else
      ((-1 : Int32), u)
  else
    ((-1 : Int32), u)
set_option maxHeartbeats 4000000 in
set_option maxRecDepth 100000 in
theorem mt_X3_operateInts (l : Launch) (dC : Nat → ClassId) (dI : Nat → Nat → Nat) (h0 h1 : Nat) (cA : ClassId) (sz : Nat) (u : ScT) (p0 : Int32) : Met l yX3_operateInts wsX3_operateInts ({ frames := 3, cells := 0, slots := 0, locals := 66 }) (wr_P [.ref h0, .int p0] (dC, dI) vwCl (Wc h0 h1 cA u) [(cA, .long)] sz) (va_Qi (fun r v => r = (f_X3_operateInts u p0).1 ∧ v = (f_X3_operateInts u p0).2) (wr_B (dC, dI) vwCl [(cA, .long)] (va_A (Wc h0 h1 cA u) sz) (Wc h0 h1 cA)) (va_A (Wc h0 h1 cA u) sz)) 0 0 (va_A (Wc h0 h1 cA u) sz) := by
  refine Met.ofW (cc := cX3_operateInts) (maxL := 5) (ret := (some .int)) (by decide) rfl ?_
  intro p e s m args below meth c s₁ B hml hv
  obtain ⟨rfl, hsz, hP, hK, hD0⟩ := hv
  have hx := B.exec
  have hb := B.bytes
  have hr := B.returns
  have hts0 := atoms_spec (ws := wsX3_operateInts) B.pre
  have hts := fun (w : Cond) (h : w ∈ lw_G) => hts0 w (List.mem_cons_of_mem _ h)
  have hown : s.vm.findClass RX3 = some m.cls := findClass_of_methodNamed B.named
  have hlocks := B.notSynchronized
  subst hsz
  have hD := hD0.self (sz := s.heap.size)
  generalize hAe : va_A (Wc h0 h1 cA u) s.heap.size = A at hD ⊢
  have hA : ∀ q : Nat, s.heap.size ≤ q → A q := fun q h => by rw [← hAe]; exact Or.inr h
  have hS : va_S A s.heap s.heap [] := va_S.rf
  have hl := lv_entry ([.ref h0, .int p0]) (n := 5) (Nat.le_of_ble_eq_true rfl)
  rw [lg_entry_eq]
  generalize (lg_sl ([.ref h0, .int p0]) ++ List.replicate (5 - (lg_sl ([.ref h0, .int p0])).length) Slot.unset).toArray = ls at hl ⊢
  have hl : lv_has ls 5 [(0, .ref h0), (1, .int p0)] := hl
  refine lv_iload_n hx hb dX3_operateInts_0 rfl (lv_at hl 1 rfl) ?_
  refine W.callV (W.runS (As := [.int p0]) (rest := []) ⟨hx, hb, hml, hown, hts⟩ (mt_X2_f l p0) (va_cwS 1 hts gX3_157_X2_f rfl rfl rfl (by decide +kernel) ⟨Nat.le_of_ble_eq_true rfl, Nat.le_of_ble_eq_true rfl⟩) preEq rfl rfl hl.1 rfl (lv_room (Nat.le_of_ble_eq_true rfl)) dX3_operateInts_1 ⟨Nat.le_of_ble_eq_true rfl, Nat.le_of_ble_eq_true rfl⟩) ?_
  refine W.eq (g2 := F0 m 4 ls [.int (f_X2_f p0)]) rfl ?_
  refine lv_istore_n (lv' := [(2, .int (f_X2_f p0)), (0, .ref h0), (1, .int p0)]) hx hb dX3_operateInts_4 rfl hl (by decide) rfl (fun ls hl => ?_)
  refine lv_aload_n hx hb dX3_operateInts_5 rfl (lv_at hl 1 rfl) ?_
  refine lv_iload_n hx hb dX3_operateInts_6 rfl (lv_at hl 2 rfl) ?_
  refine W.callV (W.runV (As := [.int p0]) (rest := []) ⟨hx, hb, hml, hown, hts⟩ (mt_X3_x l dC dI h0 h1 cA u p0) (cwV 1 hts gX3_101_X3_x rfl rfl rfl (by decide +kernel) ⟨Nat.le_of_ble_eq_true rfl, Nat.le_of_ble_eq_true rfl⟩) (rd_V hK hP (ci := 0) (q0 := 0) rfl rfl rfl) rfl rfl hl.1 rfl (lv_room (Nat.le_of_ble_eq_true rfl)) dX3_operateInts_7 ⟨Nat.le_of_ble_eq_true rfl, Nat.le_of_ble_eq_true rfl⟩) ?_
  refine W.eq (g2 := F0 m 10 ls [.long (f_X3_x u p0)]) rfl ?_
  refine lv_l2i (v := (f_X3_x u p0).toInt32) hx hb dX3_operateInts_10 rfl ?_
  refine lv_istore_n (lv' := [(3, .int (f_X3_x u p0).toInt32), (2, .int (f_X2_f p0)), (0, .ref h0), (1, .int p0)]) hx hb dX3_operateInts_11 rfl hl (by decide) rfl (fun ls hl => ?_)
  refine lv_aload_n hx hb dX3_operateInts_12 rfl (lv_at hl 2 rfl) ?_
  refine lv_iload_n hx hb dX3_operateInts_13 rfl (lv_at hl 3 rfl) ?_
  refine W.callV (W.runV (As := [.int p0]) (rest := []) ⟨hx, hb, hml, hown, hts⟩ (mt_X3_y l dC dI h0 h1 cA u p0) (cwV 1 hts gX3_163_X3_y rfl rfl rfl (by decide +kernel) ⟨Nat.le_of_ble_eq_true rfl, Nat.le_of_ble_eq_true rfl⟩) (rd_V hK hP (ci := 0) (q0 := 0) rfl rfl rfl) rfl rfl hl.1 rfl (lv_room (Nat.le_of_ble_eq_true rfl)) dX3_operateInts_14 ⟨Nat.le_of_ble_eq_true rfl, Nat.le_of_ble_eq_true rfl⟩) ?_
  refine W.eq (g2 := F0 m 17 ls [.long (f_X3_y u p0)]) rfl ?_
  refine lv_l2i (v := (f_X3_y u p0).toInt32) hx hb dX3_operateInts_17 rfl ?_
  refine lv_istore (lv' := [(4, .int (f_X3_y u p0).toInt32), (3, .int (f_X3_x u p0).toInt32), (2, .int (f_X2_f p0)), (0, .ref h0), (1, .int p0)]) hx hb dX3_operateInts_18 hl (by decide) rfl (fun ls hl => ?_)
  refine lv_iload_n hx hb dX3_operateInts_20 rfl (lv_at hl 4 rfl) ?_
  refine W.callV (W.runS (As := [.int p0]) (rest := []) ⟨hx, hb, hml, hown, hts⟩ (mt_X2_g l p0) (va_cwS 1 hts gX3_186_X2_g rfl rfl rfl (by decide +kernel) ⟨Nat.le_of_ble_eq_true rfl, Nat.le_of_ble_eq_true rfl⟩) preEq rfl rfl hl.1 rfl (lv_room (Nat.le_of_ble_eq_true rfl)) dX3_operateInts_21 ⟨Nat.le_of_ble_eq_true rfl, Nat.le_of_ble_eq_true rfl⟩) ?_
  refine W.eq (g2 := F0 m 24 ls [.int (f_X2_g p0)]) rfl ?_
  by_cases c1 : (f_X2_g p0) = (0 : Int32)
  · refine lv_lookup (tgt := 60) (off := 36) hx hb dX3_operateInts_24 (by decide +kernel) (by rw [c1]; decide +kernel) (by decide) ?_
    refine lv_iload_n hx hb dX3_operateInts_60 rfl (lv_at hl 2 rfl) ?_
    refine lv_if_eq (tgt := 74) hx hb dX3_operateInts_61 (by decide) (fun c2 => ?_) (fun c2 => ?_)
    · refine lv_aload_n hx hb dX3_operateInts_74 rfl (lv_at hl 3 rfl) ?_
      refine lv_iload_n hx hb dX3_operateInts_75 rfl (lv_at hl 4 rfl) ?_
      refine lv_iload_n hx hb dX3_operateInts_76 rfl (lv_at hl 2 rfl) ?_
      refine lv_iload_n hx hb dX3_operateInts_77 rfl (lv_at hl 1 rfl) ?_
      refine lv_iload hx hb dX3_operateInts_78 (lv_at hl 0 rfl) ?_
      refine W.callV (W.runS (As := [.int (f_X2_f p0), .int (f_X3_x u p0).toInt32, .int (f_X3_y u p0).toInt32]) (rest := [.int p0, .ref h0]) ⟨hx, hb, hml, hown, hts⟩ (mt_X0_plain l (f_X2_f p0) (f_X3_x u p0).toInt32 (f_X3_y u p0).toInt32) (va_cwS 3 hts gX3_197_X0_plain rfl rfl rfl (by decide +kernel) ⟨Nat.le_of_ble_eq_true rfl, Nat.le_of_ble_eq_true rfl⟩) preEq rfl rfl hl.1 rfl (lv_room (Nat.le_of_ble_eq_true rfl)) dX3_operateInts_80 ⟨Nat.le_of_ble_eq_true rfl, Nat.le_of_ble_eq_true rfl⟩) ?_
      refine W.eq (g2 := F0 m 83 ls [.int (f_X0_plain (f_X2_f p0) (f_X3_x u p0).toInt32 (f_X3_y u p0).toInt32), .int p0, .ref h0]) rfl ?_
      refine lv_i2l (v := (f_X0_plain (f_X2_f p0) (f_X3_x u p0).toInt32 (f_X3_y u p0).toInt32).toInt64) hx hb dX3_operateInts_83 rfl ?_
      refine wr_calli (wr := []) (va_runV (As := [.int p0, .long (f_X0_plain (f_X2_f p0) (f_X3_x u p0).toInt32 (f_X3_y u p0).toInt32).toInt64]) (rest := []) ⟨hx, hb, hml, hown, hts⟩ (mt_X3_give l dC dI h0 h1 cA s.heap.size u p0 (f_X0_plain (f_X2_f p0) (f_X3_x u p0).toInt32 (f_X3_y u p0).toInt32).toInt64) (cwV 2 hts gX3_55_X3_give rfl rfl rfl (by decide +kernel) ⟨Nat.le_of_ble_eq_true rfl, Nat.le_of_ble_eq_true rfl⟩) (wr_V hK hP hD (ci := 0) (q0 := 0) rfl rfl rfl) rfl rfl hl.1 rfl (lv_room (Nat.le_of_ble_eq_true rfl)) dX3_operateInts_84 ⟨Nat.le_of_ble_eq_true rfl, Nat.le_of_ble_eq_true rfl⟩) hS hP hD hA [0, 1] [] rfl rfl (by decide) (by decide) (fun r_ v_ H locs hw hP hD hS => ?_)
      obtain ⟨rfl, rfl⟩ := hw
      refine W.eq (g2 := F0 m 87 ls [.int (f_X3_give u p0 (f_X0_plain (f_X2_f p0) (f_X3_x u p0).toInt32 (f_X3_y u p0).toInt32).toInt64).1]) rfl ?_
      have hP : va_P (dC, dI) vwCl (Wc h0 h1 cA (f_X3_give u p0 (f_X0_plain (f_X2_f p0) (f_X3_x u p0).toInt32 (f_X3_y u p0).toInt32).toInt64).2) H := hP
      have hD : va_D A (Wc h0 h1 cA (f_X3_give u p0 (f_X0_plain (f_X2_f p0) (f_X3_x u p0).toInt32 (f_X3_y u p0).toInt32).toInt64).2) := hD
      refine lv_goto (tgt := 91) hx hb dX3_operateInts_87 (by decide) ?_
      have hF : f_X3_operateInts u p0 = ((f_X3_give u p0 (f_X0_plain (f_X2_f p0) (f_X3_x u p0).toInt32 (f_X3_y u p0).toInt32).toInt64).1, (f_X3_give u p0 (f_X0_plain (f_X2_f p0) (f_X3_x u p0).toInt32 (f_X3_y u p0).toInt32).toInt64).2) := by unfold f_X3_operateInts; rw [if_pos c1, if_pos c2]
      exact W.iret (v := (f_X3_give u p0 (f_X0_plain (f_X2_f p0) (f_X3_x u p0).toInt32 (f_X3_y u p0).toInt32).toInt64).1) hx hb hr (fun t ht hW => ⟨⟨(f_X3_give u p0 (f_X0_plain (f_X2_f p0) (f_X3_x u p0).toInt32 (f_X3_y u p0).toInt32).toInt64).1, (f_X3_give u p0 (f_X0_plain (f_X2_f p0) (f_X3_x u p0).toInt32 (f_X3_y u p0).toInt32).toInt64).2, rfl, ⟨(congrArg Prod.fst hF).symm, (congrArg Prod.snd hF).symm⟩, by rw [ht]; exact hP, va_K.moved hW.alike hK, hD⟩, hS.F ht⟩) hS.2.2 dX3_operateInts_91
    · refine lv_iload_n hx hb dX3_operateInts_64 rfl (lv_at hl 2 rfl) ?_
      refine lv_iconst (v := (1 : Int32)) hx hb dX3_operateInts_65 (by decide) ?_
      refine lv_icmp_eq (tgt := 74) hx hb dX3_operateInts_66 (by decide) (fun c3 => ?_) (fun c3 => ?_)
      · refine lv_aload_n hx hb dX3_operateInts_74 rfl (lv_at hl 3 rfl) ?_
        refine lv_iload_n hx hb dX3_operateInts_75 rfl (lv_at hl 4 rfl) ?_
        refine lv_iload_n hx hb dX3_operateInts_76 rfl (lv_at hl 2 rfl) ?_
        refine lv_iload_n hx hb dX3_operateInts_77 rfl (lv_at hl 1 rfl) ?_
        refine lv_iload hx hb dX3_operateInts_78 (lv_at hl 0 rfl) ?_
        refine W.callV (W.runS (As := [.int (f_X2_f p0), .int (f_X3_x u p0).toInt32, .int (f_X3_y u p0).toInt32]) (rest := [.int p0, .ref h0]) ⟨hx, hb, hml, hown, hts⟩ (mt_X0_plain l (f_X2_f p0) (f_X3_x u p0).toInt32 (f_X3_y u p0).toInt32) (va_cwS 3 hts gX3_197_X0_plain rfl rfl rfl (by decide +kernel) ⟨Nat.le_of_ble_eq_true rfl, Nat.le_of_ble_eq_true rfl⟩) preEq rfl rfl hl.1 rfl (lv_room (Nat.le_of_ble_eq_true rfl)) dX3_operateInts_80 ⟨Nat.le_of_ble_eq_true rfl, Nat.le_of_ble_eq_true rfl⟩) ?_
        refine W.eq (g2 := F0 m 83 ls [.int (f_X0_plain (f_X2_f p0) (f_X3_x u p0).toInt32 (f_X3_y u p0).toInt32), .int p0, .ref h0]) rfl ?_
        refine lv_i2l (v := (f_X0_plain (f_X2_f p0) (f_X3_x u p0).toInt32 (f_X3_y u p0).toInt32).toInt64) hx hb dX3_operateInts_83 rfl ?_
        refine wr_calli (wr := []) (va_runV (As := [.int p0, .long (f_X0_plain (f_X2_f p0) (f_X3_x u p0).toInt32 (f_X3_y u p0).toInt32).toInt64]) (rest := []) ⟨hx, hb, hml, hown, hts⟩ (mt_X3_give l dC dI h0 h1 cA s.heap.size u p0 (f_X0_plain (f_X2_f p0) (f_X3_x u p0).toInt32 (f_X3_y u p0).toInt32).toInt64) (cwV 2 hts gX3_55_X3_give rfl rfl rfl (by decide +kernel) ⟨Nat.le_of_ble_eq_true rfl, Nat.le_of_ble_eq_true rfl⟩) (wr_V hK hP hD (ci := 0) (q0 := 0) rfl rfl rfl) rfl rfl hl.1 rfl (lv_room (Nat.le_of_ble_eq_true rfl)) dX3_operateInts_84 ⟨Nat.le_of_ble_eq_true rfl, Nat.le_of_ble_eq_true rfl⟩) hS hP hD hA [0, 1] [] rfl rfl (by decide) (by decide) (fun r_ v_ H locs hw hP hD hS => ?_)
        obtain ⟨rfl, rfl⟩ := hw
        refine W.eq (g2 := F0 m 87 ls [.int (f_X3_give u p0 (f_X0_plain (f_X2_f p0) (f_X3_x u p0).toInt32 (f_X3_y u p0).toInt32).toInt64).1]) rfl ?_
        have hP : va_P (dC, dI) vwCl (Wc h0 h1 cA (f_X3_give u p0 (f_X0_plain (f_X2_f p0) (f_X3_x u p0).toInt32 (f_X3_y u p0).toInt32).toInt64).2) H := hP
        have hD : va_D A (Wc h0 h1 cA (f_X3_give u p0 (f_X0_plain (f_X2_f p0) (f_X3_x u p0).toInt32 (f_X3_y u p0).toInt32).toInt64).2) := hD
        refine lv_goto (tgt := 91) hx hb dX3_operateInts_87 (by decide) ?_
        have hF : f_X3_operateInts u p0 = ((f_X3_give u p0 (f_X0_plain (f_X2_f p0) (f_X3_x u p0).toInt32 (f_X3_y u p0).toInt32).toInt64).1, (f_X3_give u p0 (f_X0_plain (f_X2_f p0) (f_X3_x u p0).toInt32 (f_X3_y u p0).toInt32).toInt64).2) := by unfold f_X3_operateInts; rw [if_pos c1, if_neg c2, if_pos c3]
        exact W.iret (v := (f_X3_give u p0 (f_X0_plain (f_X2_f p0) (f_X3_x u p0).toInt32 (f_X3_y u p0).toInt32).toInt64).1) hx hb hr (fun t ht hW => ⟨⟨(f_X3_give u p0 (f_X0_plain (f_X2_f p0) (f_X3_x u p0).toInt32 (f_X3_y u p0).toInt32).toInt64).1, (f_X3_give u p0 (f_X0_plain (f_X2_f p0) (f_X3_x u p0).toInt32 (f_X3_y u p0).toInt32).toInt64).2, rfl, ⟨(congrArg Prod.fst hF).symm, (congrArg Prod.snd hF).symm⟩, by rw [ht]; exact hP, va_K.moved hW.alike hK, hD⟩, hS.F ht⟩) hS.2.2 dX3_operateInts_91
      · refine lv_iload_n hx hb dX3_operateInts_69 rfl (lv_at hl 2 rfl) ?_
        refine lv_iconst (v := (5 : Int32)) hx hb dX3_operateInts_70 (by decide) ?_
        refine lv_icmp_ne (tgt := 90) hx hb dX3_operateInts_71 (by decide) (fun c4 => ?_) (fun c4 => ?_)
        · refine lv_iconst (v := (-1 : Int32)) hx hb dX3_operateInts_90 (by decide) ?_
          have hF : f_X3_operateInts u p0 = ((-1 : Int32), u) := by unfold f_X3_operateInts; rw [if_pos c1, if_neg c2, if_neg c3, if_neg c4]
          exact W.iret (v := (-1 : Int32)) hx hb hr (fun t ht hW => ⟨⟨(-1 : Int32), u, rfl, ⟨(congrArg Prod.fst hF).symm, (congrArg Prod.snd hF).symm⟩, by rw [ht]; exact hP, va_K.moved hW.alike hK, hD⟩, hS.F ht⟩) hS.2.2 dX3_operateInts_91
        · refine lv_aload_n hx hb dX3_operateInts_74 rfl (lv_at hl 3 rfl) ?_
          refine lv_iload_n hx hb dX3_operateInts_75 rfl (lv_at hl 4 rfl) ?_
          refine lv_iload_n hx hb dX3_operateInts_76 rfl (lv_at hl 2 rfl) ?_
          refine lv_iload_n hx hb dX3_operateInts_77 rfl (lv_at hl 1 rfl) ?_
          refine lv_iload hx hb dX3_operateInts_78 (lv_at hl 0 rfl) ?_
          refine W.callV (W.runS (As := [.int (f_X2_f p0), .int (f_X3_x u p0).toInt32, .int (f_X3_y u p0).toInt32]) (rest := [.int p0, .ref h0]) ⟨hx, hb, hml, hown, hts⟩ (mt_X0_plain l (f_X2_f p0) (f_X3_x u p0).toInt32 (f_X3_y u p0).toInt32) (va_cwS 3 hts gX3_197_X0_plain rfl rfl rfl (by decide +kernel) ⟨Nat.le_of_ble_eq_true rfl, Nat.le_of_ble_eq_true rfl⟩) preEq rfl rfl hl.1 rfl (lv_room (Nat.le_of_ble_eq_true rfl)) dX3_operateInts_80 ⟨Nat.le_of_ble_eq_true rfl, Nat.le_of_ble_eq_true rfl⟩) ?_
          refine W.eq (g2 := F0 m 83 ls [.int (f_X0_plain (f_X2_f p0) (f_X3_x u p0).toInt32 (f_X3_y u p0).toInt32), .int p0, .ref h0]) rfl ?_
          refine lv_i2l (v := (f_X0_plain (f_X2_f p0) (f_X3_x u p0).toInt32 (f_X3_y u p0).toInt32).toInt64) hx hb dX3_operateInts_83 rfl ?_
          refine wr_calli (wr := []) (va_runV (As := [.int p0, .long (f_X0_plain (f_X2_f p0) (f_X3_x u p0).toInt32 (f_X3_y u p0).toInt32).toInt64]) (rest := []) ⟨hx, hb, hml, hown, hts⟩ (mt_X3_give l dC dI h0 h1 cA s.heap.size u p0 (f_X0_plain (f_X2_f p0) (f_X3_x u p0).toInt32 (f_X3_y u p0).toInt32).toInt64) (cwV 2 hts gX3_55_X3_give rfl rfl rfl (by decide +kernel) ⟨Nat.le_of_ble_eq_true rfl, Nat.le_of_ble_eq_true rfl⟩) (wr_V hK hP hD (ci := 0) (q0 := 0) rfl rfl rfl) rfl rfl hl.1 rfl (lv_room (Nat.le_of_ble_eq_true rfl)) dX3_operateInts_84 ⟨Nat.le_of_ble_eq_true rfl, Nat.le_of_ble_eq_true rfl⟩) hS hP hD hA [0, 1] [] rfl rfl (by decide) (by decide) (fun r_ v_ H locs hw hP hD hS => ?_)
          obtain ⟨rfl, rfl⟩ := hw
          refine W.eq (g2 := F0 m 87 ls [.int (f_X3_give u p0 (f_X0_plain (f_X2_f p0) (f_X3_x u p0).toInt32 (f_X3_y u p0).toInt32).toInt64).1]) rfl ?_
          have hP : va_P (dC, dI) vwCl (Wc h0 h1 cA (f_X3_give u p0 (f_X0_plain (f_X2_f p0) (f_X3_x u p0).toInt32 (f_X3_y u p0).toInt32).toInt64).2) H := hP
          have hD : va_D A (Wc h0 h1 cA (f_X3_give u p0 (f_X0_plain (f_X2_f p0) (f_X3_x u p0).toInt32 (f_X3_y u p0).toInt32).toInt64).2) := hD
          refine lv_goto (tgt := 91) hx hb dX3_operateInts_87 (by decide) ?_
          have hF : f_X3_operateInts u p0 = ((f_X3_give u p0 (f_X0_plain (f_X2_f p0) (f_X3_x u p0).toInt32 (f_X3_y u p0).toInt32).toInt64).1, (f_X3_give u p0 (f_X0_plain (f_X2_f p0) (f_X3_x u p0).toInt32 (f_X3_y u p0).toInt32).toInt64).2) := by unfold f_X3_operateInts; rw [if_pos c1, if_neg c2, if_neg c3, if_pos c4]
          exact W.iret (v := (f_X3_give u p0 (f_X0_plain (f_X2_f p0) (f_X3_x u p0).toInt32 (f_X3_y u p0).toInt32).toInt64).1) hx hb hr (fun t ht hW => ⟨⟨(f_X3_give u p0 (f_X0_plain (f_X2_f p0) (f_X3_x u p0).toInt32 (f_X3_y u p0).toInt32).toInt64).1, (f_X3_give u p0 (f_X0_plain (f_X2_f p0) (f_X3_x u p0).toInt32 (f_X3_y u p0).toInt32).toInt64).2, rfl, ⟨(congrArg Prod.fst hF).symm, (congrArg Prod.snd hF).symm⟩, by rw [ht]; exact hP, va_K.moved hW.alike hK, hD⟩, hS.F ht⟩) hS.2.2 dX3_operateInts_91
  · by_cases c5 : (f_X2_g p0) = (1 : Int32)
    · refine lv_lookup (tgt := 92) (off := 68) hx hb dX3_operateInts_24 (by decide +kernel) (by rw [c5]; decide +kernel) (by decide) ?_
      refine lv_iload_n hx hb dX3_operateInts_92 rfl (lv_at hl 2 rfl) ?_
      refine lv_if_eq (tgt := 101) hx hb dX3_operateInts_93 (by decide) (fun c6 => ?_) (fun c6 => ?_)
      · refine lv_aload_n hx hb dX3_operateInts_101 rfl (lv_at hl 3 rfl) ?_
        refine lv_iload_n hx hb dX3_operateInts_102 rfl (lv_at hl 4 rfl) ?_
        refine lv_iload_n hx hb dX3_operateInts_103 rfl (lv_at hl 2 rfl) ?_
        refine lv_iload_n hx hb dX3_operateInts_104 rfl (lv_at hl 1 rfl) ?_
        refine lv_iload hx hb dX3_operateInts_105 (lv_at hl 0 rfl) ?_
        refine W.callV (W.runS (As := [.int (f_X2_f p0), .int (f_X3_x u p0).toInt32, .int (f_X3_y u p0).toInt32]) (rest := [.int p0, .ref h0]) ⟨hx, hb, hml, hown, hts⟩ (mt_X0_product l (f_X2_f p0) (f_X3_x u p0).toInt32 (f_X3_y u p0).toInt32) (va_cwS 3 hts gX3_200_X0_product rfl rfl rfl (by decide +kernel) ⟨Nat.le_of_ble_eq_true rfl, Nat.le_of_ble_eq_true rfl⟩) preEq rfl rfl hl.1 rfl (lv_room (Nat.le_of_ble_eq_true rfl)) dX3_operateInts_107 ⟨Nat.le_of_ble_eq_true rfl, Nat.le_of_ble_eq_true rfl⟩) ?_
        refine W.eq (g2 := F0 m 110 ls [.int (f_X0_product (f_X2_f p0) (f_X3_x u p0).toInt32 (f_X3_y u p0).toInt32), .int p0, .ref h0]) rfl ?_
        refine lv_i2l (v := (f_X0_product (f_X2_f p0) (f_X3_x u p0).toInt32 (f_X3_y u p0).toInt32).toInt64) hx hb dX3_operateInts_110 rfl ?_
        refine wr_calli (wr := []) (va_runV (As := [.int p0, .long (f_X0_product (f_X2_f p0) (f_X3_x u p0).toInt32 (f_X3_y u p0).toInt32).toInt64]) (rest := []) ⟨hx, hb, hml, hown, hts⟩ (mt_X3_give l dC dI h0 h1 cA s.heap.size u p0 (f_X0_product (f_X2_f p0) (f_X3_x u p0).toInt32 (f_X3_y u p0).toInt32).toInt64) (cwV 2 hts gX3_55_X3_give rfl rfl rfl (by decide +kernel) ⟨Nat.le_of_ble_eq_true rfl, Nat.le_of_ble_eq_true rfl⟩) (wr_V hK hP hD (ci := 0) (q0 := 0) rfl rfl rfl) rfl rfl hl.1 rfl (lv_room (Nat.le_of_ble_eq_true rfl)) dX3_operateInts_111 ⟨Nat.le_of_ble_eq_true rfl, Nat.le_of_ble_eq_true rfl⟩) hS hP hD hA [0, 1] [] rfl rfl (by decide) (by decide) (fun r_ v_ H locs hw hP hD hS => ?_)
        obtain ⟨rfl, rfl⟩ := hw
        refine W.eq (g2 := F0 m 114 ls [.int (f_X3_give u p0 (f_X0_product (f_X2_f p0) (f_X3_x u p0).toInt32 (f_X3_y u p0).toInt32).toInt64).1]) rfl ?_
        have hP : va_P (dC, dI) vwCl (Wc h0 h1 cA (f_X3_give u p0 (f_X0_product (f_X2_f p0) (f_X3_x u p0).toInt32 (f_X3_y u p0).toInt32).toInt64).2) H := hP
        have hD : va_D A (Wc h0 h1 cA (f_X3_give u p0 (f_X0_product (f_X2_f p0) (f_X3_x u p0).toInt32 (f_X3_y u p0).toInt32).toInt64).2) := hD
        refine lv_goto (tgt := 118) hx hb dX3_operateInts_114 (by decide) ?_
        have hF : f_X3_operateInts u p0 = ((f_X3_give u p0 (f_X0_product (f_X2_f p0) (f_X3_x u p0).toInt32 (f_X3_y u p0).toInt32).toInt64).1, (f_X3_give u p0 (f_X0_product (f_X2_f p0) (f_X3_x u p0).toInt32 (f_X3_y u p0).toInt32).toInt64).2) := by unfold f_X3_operateInts; rw [if_neg c1, if_pos c5, if_pos c6]
        exact W.iret (v := (f_X3_give u p0 (f_X0_product (f_X2_f p0) (f_X3_x u p0).toInt32 (f_X3_y u p0).toInt32).toInt64).1) hx hb hr (fun t ht hW => ⟨⟨(f_X3_give u p0 (f_X0_product (f_X2_f p0) (f_X3_x u p0).toInt32 (f_X3_y u p0).toInt32).toInt64).1, (f_X3_give u p0 (f_X0_product (f_X2_f p0) (f_X3_x u p0).toInt32 (f_X3_y u p0).toInt32).toInt64).2, rfl, ⟨(congrArg Prod.fst hF).symm, (congrArg Prod.snd hF).symm⟩, by rw [ht]; exact hP, va_K.moved hW.alike hK, hD⟩, hS.F ht⟩) hS.2.2 dX3_operateInts_118
      · refine lv_iload_n hx hb dX3_operateInts_96 rfl (lv_at hl 2 rfl) ?_
        refine lv_iconst (v := (4 : Int32)) hx hb dX3_operateInts_97 (by decide) ?_
        refine lv_icmp_lt (tgt := 117) hx hb dX3_operateInts_98 (by decide) (fun c7 => ?_) (fun c7 => ?_)
        · refine lv_iconst (v := (-1 : Int32)) hx hb dX3_operateInts_117 (by decide) ?_
          have hF : f_X3_operateInts u p0 = ((-1 : Int32), u) := by unfold f_X3_operateInts; rw [if_neg c1, if_pos c5, if_neg c6, if_pos c7]
          exact W.iret (v := (-1 : Int32)) hx hb hr (fun t ht hW => ⟨⟨(-1 : Int32), u, rfl, ⟨(congrArg Prod.fst hF).symm, (congrArg Prod.snd hF).symm⟩, by rw [ht]; exact hP, va_K.moved hW.alike hK, hD⟩, hS.F ht⟩) hS.2.2 dX3_operateInts_118
        · refine lv_aload_n hx hb dX3_operateInts_101 rfl (lv_at hl 3 rfl) ?_
          refine lv_iload_n hx hb dX3_operateInts_102 rfl (lv_at hl 4 rfl) ?_
          refine lv_iload_n hx hb dX3_operateInts_103 rfl (lv_at hl 2 rfl) ?_
          refine lv_iload_n hx hb dX3_operateInts_104 rfl (lv_at hl 1 rfl) ?_
          refine lv_iload hx hb dX3_operateInts_105 (lv_at hl 0 rfl) ?_
          refine W.callV (W.runS (As := [.int (f_X2_f p0), .int (f_X3_x u p0).toInt32, .int (f_X3_y u p0).toInt32]) (rest := [.int p0, .ref h0]) ⟨hx, hb, hml, hown, hts⟩ (mt_X0_product l (f_X2_f p0) (f_X3_x u p0).toInt32 (f_X3_y u p0).toInt32) (va_cwS 3 hts gX3_200_X0_product rfl rfl rfl (by decide +kernel) ⟨Nat.le_of_ble_eq_true rfl, Nat.le_of_ble_eq_true rfl⟩) preEq rfl rfl hl.1 rfl (lv_room (Nat.le_of_ble_eq_true rfl)) dX3_operateInts_107 ⟨Nat.le_of_ble_eq_true rfl, Nat.le_of_ble_eq_true rfl⟩) ?_
          refine W.eq (g2 := F0 m 110 ls [.int (f_X0_product (f_X2_f p0) (f_X3_x u p0).toInt32 (f_X3_y u p0).toInt32), .int p0, .ref h0]) rfl ?_
          refine lv_i2l (v := (f_X0_product (f_X2_f p0) (f_X3_x u p0).toInt32 (f_X3_y u p0).toInt32).toInt64) hx hb dX3_operateInts_110 rfl ?_
          refine wr_calli (wr := []) (va_runV (As := [.int p0, .long (f_X0_product (f_X2_f p0) (f_X3_x u p0).toInt32 (f_X3_y u p0).toInt32).toInt64]) (rest := []) ⟨hx, hb, hml, hown, hts⟩ (mt_X3_give l dC dI h0 h1 cA s.heap.size u p0 (f_X0_product (f_X2_f p0) (f_X3_x u p0).toInt32 (f_X3_y u p0).toInt32).toInt64) (cwV 2 hts gX3_55_X3_give rfl rfl rfl (by decide +kernel) ⟨Nat.le_of_ble_eq_true rfl, Nat.le_of_ble_eq_true rfl⟩) (wr_V hK hP hD (ci := 0) (q0 := 0) rfl rfl rfl) rfl rfl hl.1 rfl (lv_room (Nat.le_of_ble_eq_true rfl)) dX3_operateInts_111 ⟨Nat.le_of_ble_eq_true rfl, Nat.le_of_ble_eq_true rfl⟩) hS hP hD hA [0, 1] [] rfl rfl (by decide) (by decide) (fun r_ v_ H locs hw hP hD hS => ?_)
          obtain ⟨rfl, rfl⟩ := hw
          refine W.eq (g2 := F0 m 114 ls [.int (f_X3_give u p0 (f_X0_product (f_X2_f p0) (f_X3_x u p0).toInt32 (f_X3_y u p0).toInt32).toInt64).1]) rfl ?_
          have hP : va_P (dC, dI) vwCl (Wc h0 h1 cA (f_X3_give u p0 (f_X0_product (f_X2_f p0) (f_X3_x u p0).toInt32 (f_X3_y u p0).toInt32).toInt64).2) H := hP
          have hD : va_D A (Wc h0 h1 cA (f_X3_give u p0 (f_X0_product (f_X2_f p0) (f_X3_x u p0).toInt32 (f_X3_y u p0).toInt32).toInt64).2) := hD
          refine lv_goto (tgt := 118) hx hb dX3_operateInts_114 (by decide) ?_
          have hF : f_X3_operateInts u p0 = ((f_X3_give u p0 (f_X0_product (f_X2_f p0) (f_X3_x u p0).toInt32 (f_X3_y u p0).toInt32).toInt64).1, (f_X3_give u p0 (f_X0_product (f_X2_f p0) (f_X3_x u p0).toInt32 (f_X3_y u p0).toInt32).toInt64).2) := by unfold f_X3_operateInts; rw [if_neg c1, if_pos c5, if_neg c6, if_neg c7]
          exact W.iret (v := (f_X3_give u p0 (f_X0_product (f_X2_f p0) (f_X3_x u p0).toInt32 (f_X3_y u p0).toInt32).toInt64).1) hx hb hr (fun t ht hW => ⟨⟨(f_X3_give u p0 (f_X0_product (f_X2_f p0) (f_X3_x u p0).toInt32 (f_X3_y u p0).toInt32).toInt64).1, (f_X3_give u p0 (f_X0_product (f_X2_f p0) (f_X3_x u p0).toInt32 (f_X3_y u p0).toInt32).toInt64).2, rfl, ⟨(congrArg Prod.fst hF).symm, (congrArg Prod.snd hF).symm⟩, by rw [ht]; exact hP, va_K.moved hW.alike hK, hD⟩, hS.F ht⟩) hS.2.2 dX3_operateInts_118
    · by_cases c8 : (f_X2_g p0) = (32 : Int32)
      · refine lv_lookup (tgt := 119) (off := 95) hx hb dX3_operateInts_24 (by decide +kernel) (by rw [c8]; decide +kernel) (by decide) ?_
        refine lv_iload_n hx hb dX3_operateInts_119 rfl (lv_at hl 2 rfl) ?_
        refine lv_if_ne (tgt := 134) hx hb dX3_operateInts_120 (by decide) (fun c9 => ?_) (fun c9 => ?_)
        · refine lv_iload_n hx hb dX3_operateInts_134 rfl (lv_at hl 2 rfl) ?_
          refine lv_iconst (v := (5 : Int32)) hx hb dX3_operateInts_135 (by decide) ?_
          refine lv_icmp_ne (tgt := 154) hx hb dX3_operateInts_136 (by decide) (fun c10 => ?_) (fun c10 => ?_)
          · refine lv_iconst (v := (-1 : Int32)) hx hb dX3_operateInts_154 (by decide) ?_
            have hF : f_X3_operateInts u p0 = ((-1 : Int32), u) := by unfold f_X3_operateInts; rw [if_neg c1, if_neg c5, if_pos c8, if_neg c9, if_neg c10]
            exact W.iret (v := (-1 : Int32)) hx hb hr (fun t ht hW => ⟨⟨(-1 : Int32), u, rfl, ⟨(congrArg Prod.fst hF).symm, (congrArg Prod.snd hF).symm⟩, by rw [ht]; exact hP, va_K.moved hW.alike hK, hD⟩, hS.F ht⟩) hS.2.2 dX3_operateInts_155
          · refine lv_aload_n hx hb dX3_operateInts_139 rfl (lv_at hl 3 rfl) ?_
            refine lv_iload_n hx hb dX3_operateInts_140 rfl (lv_at hl 4 rfl) ?_
            refine lv_iload_n hx hb dX3_operateInts_141 rfl (lv_at hl 1 rfl) ?_
            refine lv_iload hx hb dX3_operateInts_142 (lv_at hl 0 rfl) ?_
            refine W.callV (W.runS (As := [.int (f_X3_x u p0).toInt32, .int (f_X3_y u p0).toInt32]) (rest := [.int p0, .ref h0]) ⟨hx, hb, hml, hown, hts⟩ (mt_X0_shiftRightWithSign l (f_X3_x u p0).toInt32 (f_X3_y u p0).toInt32) (va_cwS 2 hts gX3_192_X0_shiftRightWithSign rfl rfl rfl (by decide +kernel) ⟨Nat.le_of_ble_eq_true rfl, Nat.le_of_ble_eq_true rfl⟩) preEq rfl rfl hl.1 rfl (lv_room (Nat.le_of_ble_eq_true rfl)) dX3_operateInts_144 ⟨Nat.le_of_ble_eq_true rfl, Nat.le_of_ble_eq_true rfl⟩) ?_
            refine W.eq (g2 := F0 m 147 ls [.int (f_X0_shiftRightWithSign (f_X3_x u p0).toInt32 (f_X3_y u p0).toInt32), .int p0, .ref h0]) rfl ?_
            refine lv_i2l (v := (f_X0_shiftRightWithSign (f_X3_x u p0).toInt32 (f_X3_y u p0).toInt32).toInt64) hx hb dX3_operateInts_147 rfl ?_
            refine wr_calli (wr := []) (va_runV (As := [.int p0, .long (f_X0_shiftRightWithSign (f_X3_x u p0).toInt32 (f_X3_y u p0).toInt32).toInt64]) (rest := []) ⟨hx, hb, hml, hown, hts⟩ (mt_X3_give l dC dI h0 h1 cA s.heap.size u p0 (f_X0_shiftRightWithSign (f_X3_x u p0).toInt32 (f_X3_y u p0).toInt32).toInt64) (cwV 2 hts gX3_55_X3_give rfl rfl rfl (by decide +kernel) ⟨Nat.le_of_ble_eq_true rfl, Nat.le_of_ble_eq_true rfl⟩) (wr_V hK hP hD (ci := 0) (q0 := 0) rfl rfl rfl) rfl rfl hl.1 rfl (lv_room (Nat.le_of_ble_eq_true rfl)) dX3_operateInts_148 ⟨Nat.le_of_ble_eq_true rfl, Nat.le_of_ble_eq_true rfl⟩) hS hP hD hA [0, 1] [] rfl rfl (by decide) (by decide) (fun r_ v_ H locs hw hP hD hS => ?_)
            obtain ⟨rfl, rfl⟩ := hw
            refine W.eq (g2 := F0 m 151 ls [.int (f_X3_give u p0 (f_X0_shiftRightWithSign (f_X3_x u p0).toInt32 (f_X3_y u p0).toInt32).toInt64).1]) rfl ?_
            have hP : va_P (dC, dI) vwCl (Wc h0 h1 cA (f_X3_give u p0 (f_X0_shiftRightWithSign (f_X3_x u p0).toInt32 (f_X3_y u p0).toInt32).toInt64).2) H := hP
            have hD : va_D A (Wc h0 h1 cA (f_X3_give u p0 (f_X0_shiftRightWithSign (f_X3_x u p0).toInt32 (f_X3_y u p0).toInt32).toInt64).2) := hD
            refine lv_goto (tgt := 155) hx hb dX3_operateInts_151 (by decide) ?_
            have hF : f_X3_operateInts u p0 = ((f_X3_give u p0 (f_X0_shiftRightWithSign (f_X3_x u p0).toInt32 (f_X3_y u p0).toInt32).toInt64).1, (f_X3_give u p0 (f_X0_shiftRightWithSign (f_X3_x u p0).toInt32 (f_X3_y u p0).toInt32).toInt64).2) := by unfold f_X3_operateInts; rw [if_neg c1, if_neg c5, if_pos c8, if_neg c9, if_pos c10]
            exact W.iret (v := (f_X3_give u p0 (f_X0_shiftRightWithSign (f_X3_x u p0).toInt32 (f_X3_y u p0).toInt32).toInt64).1) hx hb hr (fun t ht hW => ⟨⟨(f_X3_give u p0 (f_X0_shiftRightWithSign (f_X3_x u p0).toInt32 (f_X3_y u p0).toInt32).toInt64).1, (f_X3_give u p0 (f_X0_shiftRightWithSign (f_X3_x u p0).toInt32 (f_X3_y u p0).toInt32).toInt64).2, rfl, ⟨(congrArg Prod.fst hF).symm, (congrArg Prod.snd hF).symm⟩, by rw [ht]; exact hP, va_K.moved hW.alike hK, hD⟩, hS.F ht⟩) hS.2.2 dX3_operateInts_155
        · refine lv_aload_n hx hb dX3_operateInts_123 rfl (lv_at hl 3 rfl) ?_
          refine lv_iload_n hx hb dX3_operateInts_124 rfl (lv_at hl 4 rfl) ?_
          refine lv_iload_n hx hb dX3_operateInts_125 rfl (lv_at hl 1 rfl) ?_
          refine lv_iload hx hb dX3_operateInts_126 (lv_at hl 0 rfl) ?_
          refine lv_isub hx hb dX3_operateInts_128 ?_
          refine lv_i2l (v := ((f_X3_x u p0).toInt32 - (f_X3_y u p0).toInt32).toInt64) hx hb dX3_operateInts_129 rfl ?_
          refine wr_calli (wr := []) (va_runV (As := [.int p0, .long ((f_X3_x u p0).toInt32 - (f_X3_y u p0).toInt32).toInt64]) (rest := []) ⟨hx, hb, hml, hown, hts⟩ (mt_X3_give l dC dI h0 h1 cA s.heap.size u p0 ((f_X3_x u p0).toInt32 - (f_X3_y u p0).toInt32).toInt64) (cwV 2 hts gX3_55_X3_give rfl rfl rfl (by decide +kernel) ⟨Nat.le_of_ble_eq_true rfl, Nat.le_of_ble_eq_true rfl⟩) (wr_V hK hP hD (ci := 0) (q0 := 0) rfl rfl rfl) rfl rfl hl.1 rfl (lv_room (Nat.le_of_ble_eq_true rfl)) dX3_operateInts_130 ⟨Nat.le_of_ble_eq_true rfl, Nat.le_of_ble_eq_true rfl⟩) hS hP hD hA [0, 1] [] rfl rfl (by decide) (by decide) (fun r_ v_ H locs hw hP hD hS => ?_)
          obtain ⟨rfl, rfl⟩ := hw
          refine W.eq (g2 := F0 m 133 ls [.int (f_X3_give u p0 ((f_X3_x u p0).toInt32 - (f_X3_y u p0).toInt32).toInt64).1]) rfl ?_
          have hP : va_P (dC, dI) vwCl (Wc h0 h1 cA (f_X3_give u p0 ((f_X3_x u p0).toInt32 - (f_X3_y u p0).toInt32).toInt64).2) H := hP
          have hD : va_D A (Wc h0 h1 cA (f_X3_give u p0 ((f_X3_x u p0).toInt32 - (f_X3_y u p0).toInt32).toInt64).2) := hD
          have hF : f_X3_operateInts u p0 = ((f_X3_give u p0 ((f_X3_x u p0).toInt32 - (f_X3_y u p0).toInt32).toInt64).1, (f_X3_give u p0 ((f_X3_x u p0).toInt32 - (f_X3_y u p0).toInt32).toInt64).2) := by unfold f_X3_operateInts; rw [if_neg c1, if_neg c5, if_pos c8, if_pos c9]
          exact W.iret (v := (f_X3_give u p0 ((f_X3_x u p0).toInt32 - (f_X3_y u p0).toInt32).toInt64).1) hx hb hr (fun t ht hW => ⟨⟨(f_X3_give u p0 ((f_X3_x u p0).toInt32 - (f_X3_y u p0).toInt32).toInt64).1, (f_X3_give u p0 ((f_X3_x u p0).toInt32 - (f_X3_y u p0).toInt32).toInt64).2, rfl, ⟨(congrArg Prod.fst hF).symm, (congrArg Prod.snd hF).symm⟩, by rw [ht]; exact hP, va_K.moved hW.alike hK, hD⟩, hS.F ht⟩) hS.2.2 dX3_operateInts_133
      · refine lv_lookup (tgt := 156) (off := 132) hx hb dX3_operateInts_24 (by decide +kernel) (by show Op.lookupswitch.offset [((0 : Int), (36 : Int)), ((1 : Int), (68 : Int)), ((32 : Int), (95 : Int))] 132 _ = _; rw [lv_osw c1 (k := (0 : Int32)) (by decide), lv_osw c5 (k := (1 : Int32)) (by decide), lv_osw c8 (k := (32 : Int32)) (by decide)]; rfl) (by decide) ?_
        refine lv_iconst (v := (-1 : Int32)) hx hb dX3_operateInts_156 (by decide) ?_
        have hF : f_X3_operateInts u p0 = ((-1 : Int32), u) := by unfold f_X3_operateInts; rw [if_neg c1, if_neg c5, if_neg c8]
        exact W.iret (v := (-1 : Int32)) hx hb hr (fun t ht hW => ⟨⟨(-1 : Int32), u, rfl, ⟨(congrArg Prod.fst hF).symm, (congrArg Prod.snd hF).symm⟩, by rw [ht]; exact hP, va_K.moved hW.alike hK, hD⟩, hS.F ht⟩) hS.2.2 dX3_operateInts_157
