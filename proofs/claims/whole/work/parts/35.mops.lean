noncomputable def f_X4_withImmediate (u : SmT) (p0 : Int32) (p1 : Int32) : Int32 × SmT :=
  if p1 = (1 : Int32) then
    if (f_X4_bits u (31 : Int32) (26 : Int32)) = 0 then
      if p1 = (5 : Int32) then
        if (f_X4_bits u (31 : Int32) (26 : Int32)) = (16 : Int32) then
          ((f_X4_done_ u p0 (j_lshr u.2.2.2.2.2.2.1 (f_X4_bits u (25 : Int32) (20 : Int32)))).1, (f_X4_done_ u p0 (j_lshr u.2.2.2.2.2.2.1 (f_X4_bits u (25 : Int32) (20 : Int32)))).2)
        else
          ((f_X4_done_ u p0 (f_X4_plain p1 u.2.2.2.2.2.2.1 (f_X4_immediateI u) (f_X4_bits u (25 : Int32) (20 : Int32)))).1, (f_X4_done_ u p0 (f_X4_plain p1 u.2.2.2.2.2.2.1 (f_X4_immediateI u) (f_X4_bits u (25 : Int32) (20 : Int32)))).2)
      else
        ((f_X4_done_ u p0 (f_X4_plain p1 u.2.2.2.2.2.2.1 (f_X4_immediateI u) (f_X4_bits u (25 : Int32) (20 : Int32)))).1, (f_X4_done_ u p0 (f_X4_plain p1 u.2.2.2.2.2.2.1 (f_X4_immediateI u) (f_X4_bits u (25 : Int32) (20 : Int32)))).2)
    else
      ((-1 : Int32), u)
  else if p1 = (5 : Int32) then
    if (f_X4_bits u (31 : Int32) (26 : Int32)) = 0 then
      if (f_X4_bits u (31 : Int32) (26 : Int32)) = (16 : Int32) then
        ((f_X4_done_ u p0 (j_lshr u.2.2.2.2.2.2.1 (f_X4_bits u (25 : Int32) (20 : Int32)))).1, (f_X4_done_ u p0 (j_lshr u.2.2.2.2.2.2.1 (f_X4_bits u (25 : Int32) (20 : Int32)))).2)
      else
        ((f_X4_done_ u p0 (f_X4_plain p1 u.2.2.2.2.2.2.1 (f_X4_immediateI u) (f_X4_bits u (25 : Int32) (20 : Int32)))).1, (f_X4_done_ u p0 (f_X4_plain p1 u.2.2.2.2.2.2.1 (f_X4_immediateI u) (f_X4_bits u (25 : Int32) (20 : Int32)))).2)
    else if (f_X4_bits u (31 : Int32) (26 : Int32)) = (16 : Int32) then
      ((f_X4_done_ u p0 (j_lshr u.2.2.2.2.2.2.1 (f_X4_bits u (25 : Int32) (20 : Int32)))).1, (f_X4_done_ u p0 (j_lshr u.2.2.2.2.2.2.1 (f_X4_bits u (25 : Int32) (20 : Int32)))).2)
    else
      ((-1 : Int32), u)
  else
    ((f_X4_done_ u p0 (f_X4_plain p1 u.2.2.2.2.2.2.1 (f_X4_immediateI u) (f_X4_bits u (25 : Int32) (20 : Int32)))).1, (f_X4_done_ u p0 (f_X4_plain p1 u.2.2.2.2.2.2.1 (f_X4_immediateI u) (f_X4_bits u (25 : Int32) (20 : Int32)))).2)
set_option maxHeartbeats 4000000 in
set_option maxRecDepth 100000 in
theorem mt_X4_withImmediate (l : Launch) (dC : Nat → ClassId) (dI : Nat → Nat → Nat) (g0 g1 g2 : Nat) (cB cC : ClassId) (sz : Nat) (u : SmT) (p0 : Int32) (p1 : Int32) (hd : p0 ≤ (31 : Int32)) : Met l yX4_withImmediate wsX4_withImmediate ({ frames := 2, cells := 0, slots := 0, locals := 48 }) (wr_P [.ref g0, .int p0, .int p1] (dC, dI) vwCl (Wm g0 g1 g2 cB cC u) [(cB, .long), (cC, .long)] sz) (va_Qi (fun r v => r = (f_X4_withImmediate u p0 p1).1 ∧ v = (f_X4_withImmediate u p0 p1).2) (wr_B (dC, dI) vwCl [(cB, .long), (cC, .long)] (va_A (Wm g0 g1 g2 cB cC u) sz) (Wm g0 g1 g2 cB cC)) (va_A (Wm g0 g1 g2 cB cC u) sz)) 0 0 (va_A (Wm g0 g1 g2 cB cC u) sz) := by
  refine Met.ofW (cc := cX4_withImmediate) (maxL := 5) (ret := (some .int)) (by decide) rfl ?_
  intro p e s m args below meth c s₁ B hml hv
  obtain ⟨rfl, hsz, hP, hK, hD0⟩ := hv
  have hx := B.exec
  have hb := B.bytes
  have hr := B.returns
  have hts0 := atoms_spec (ws := wsX4_withImmediate) B.pre
  have hts := fun (w : Cond) (h : w ∈ lw_G) => hts0 w (List.mem_cons_of_mem _ h)
  have hown : s.vm.findClass RX4 = some m.cls := findClass_of_methodNamed B.named
  have hlocks := B.notSynchronized
  subst hsz
  have hD := hD0.self (sz := s.heap.size)
  generalize hAe : va_A (Wm g0 g1 g2 cB cC u) s.heap.size = A at hD ⊢
  have hA : ∀ q : Nat, s.heap.size ≤ q → A q := fun q h => by rw [← hAe]; exact Or.inr h
  have hS : va_S A s.heap s.heap [] := va_S.rf
  have hl := lv_entry ([.ref g0, .int p0, .int p1]) (n := 5) (Nat.le_of_ble_eq_true rfl)
  rw [lg_entry_eq]
  generalize (lg_sl ([.ref g0, .int p0, .int p1]) ++ List.replicate (5 - (lg_sl ([.ref g0, .int p0, .int p1])).length) Slot.unset).toArray = ls at hl ⊢
  have hl : lv_has ls 5 [(0, .ref g0), (1, .int p0), (2, .int p1)] := hl
  refine lv_aload_n hx hb dX4_withImmediate_0 rfl (lv_at hl 0 rfl) ?_
  refine lv_bipush (v := (31 : Int32)) hx hb dX4_withImmediate_1 (by decide) ?_
  refine lv_bipush (v := (26 : Int32)) hx hb dX4_withImmediate_3 (by decide) ?_
  refine W.callV (W.runV (As := [.int (31 : Int32), .int (26 : Int32)]) (rest := []) ⟨hx, hb, hml, hown, hts⟩ (mt_X4_bits l dC dI g0 g1 g2 cB cC u (31 : Int32) (26 : Int32) 26 6 (by decide) (by decide) (by decide) (by decide) (by decide)) (cwV 2 hts gX4_47_X4_bits rfl rfl rfl (by decide +kernel) ⟨Nat.le_of_ble_eq_true rfl, Nat.le_of_ble_eq_true rfl⟩) (rd_V hK hP (ci := 1) (q0 := 0) rfl rfl rfl) rfl rfl hl.1 rfl (lv_room (Nat.le_of_ble_eq_true rfl)) dX4_withImmediate_5 ⟨Nat.le_of_ble_eq_true rfl, Nat.le_of_ble_eq_true rfl⟩) ?_
  refine W.eq (g2 := F0 m 8 ls [.int (f_X4_bits u (31 : Int32) (26 : Int32))]) rfl ?_
  refine lv_istore_n (lv' := [(3, .int (f_X4_bits u (31 : Int32) (26 : Int32))), (0, .ref g0), (1, .int p0), (2, .int p1)]) hx hb dX4_withImmediate_8 rfl hl (by decide) rfl (fun ls hl => ?_)
  refine lv_iload_n hx hb dX4_withImmediate_9 rfl (lv_at hl 3 rfl) ?_
  refine lv_iconst (v := (1 : Int32)) hx hb dX4_withImmediate_10 (by decide) ?_
  refine lv_icmp_ne (tgt := 18) hx hb dX4_withImmediate_11 (by decide) (fun c1 => ?_) (fun c1 => ?_)
  · refine lv_iload_n hx hb dX4_withImmediate_18 rfl (lv_at hl 3 rfl) ?_
    refine lv_iconst (v := (5 : Int32)) hx hb dX4_withImmediate_19 (by decide) ?_
    refine lv_icmp_ne (tgt := 35) hx hb dX4_withImmediate_20 (by decide) (fun c2 => ?_) (fun c2 => ?_)
    · refine lv_aload_n hx hb dX4_withImmediate_35 rfl (lv_at hl 1 rfl) ?_
      refine lv_bipush (v := (25 : Int32)) hx hb dX4_withImmediate_36 (by decide) ?_
      refine lv_bipush (v := (20 : Int32)) hx hb dX4_withImmediate_38 (by decide) ?_
      refine W.callV (W.runV (As := [.int (25 : Int32), .int (20 : Int32)]) (rest := []) ⟨hx, hb, hml, hown, hts⟩ (mt_X4_bits l dC dI g0 g1 g2 cB cC u (25 : Int32) (20 : Int32) 20 6 (by decide) (by decide) (by decide) (by decide) (by decide)) (cwV 2 hts gX4_47_X4_bits rfl rfl rfl (by decide +kernel) ⟨Nat.le_of_ble_eq_true rfl, Nat.le_of_ble_eq_true rfl⟩) (rd_V hK hP (ci := 1) (q0 := 0) rfl rfl rfl) rfl rfl hl.1 rfl (lv_room (Nat.le_of_ble_eq_true rfl)) dX4_withImmediate_40 ⟨Nat.le_of_ble_eq_true rfl, Nat.le_of_ble_eq_true rfl⟩) ?_
      refine W.eq (g2 := F0 m 43 ls [.int (f_X4_bits u (25 : Int32) (20 : Int32))]) rfl ?_
      refine lv_istore (lv' := [(4, .int (f_X4_bits u (25 : Int32) (20 : Int32))), (3, .int (f_X4_bits u (31 : Int32) (26 : Int32))), (0, .ref g0), (1, .int p0), (2, .int p1)]) hx hb dX4_withImmediate_43 hl (by decide) rfl (fun ls hl => ?_)
      refine lv_aload_n hx hb dX4_withImmediate_45 rfl (lv_at hl 2 rfl) ?_
      refine lv_iload_n hx hb dX4_withImmediate_46 rfl (lv_at hl 3 rfl) ?_
      refine lv_iload_n hx hb dX4_withImmediate_47 rfl (lv_at hl 4 rfl) ?_
      refine lv_iconst (v := (5 : Int32)) hx hb dX4_withImmediate_48 (by decide) ?_
      refine lv_icmp_ne (tgt := 68) hx hb dX4_withImmediate_49 (by decide) (fun _ => ?_) (fun c_ => absurd c_ c2)
      refine lv_iload_n hx hb dX4_withImmediate_68 rfl (lv_at hl 4 rfl) ?_
      refine lv_aload_n hx hb dX4_withImmediate_69 rfl (lv_at hl 2 rfl) ?_
      refine va_get (D := (dC, dI)) (ci := 1) (v := .long u.2.2.2.2.2.2.1) (C := RX4) (T := TX4) (N := 13) hx hb hts inX4 hown hK hP 0 rfl rfl 6 (by decide) (hts _ qw_287) (fun _ h9 => h9) rfl dX4_withImmediate_70 ?_
      refine lv_aload_n hx hb dX4_withImmediate_73 rfl (lv_at hl 2 rfl) ?_
      refine W.callV (W.runV (As := []) (rest := [.long u.2.2.2.2.2.2.1, .int p1, .int p0, .ref g0]) ⟨hx, hb, hml, hown, hts⟩ (mt_X4_immediateI l dC dI g0 g1 g2 cB cC u ) (cwV 0 hts gX4_99_X4_immediateI rfl rfl rfl (by decide +kernel) ⟨Nat.le_of_ble_eq_true rfl, Nat.le_of_ble_eq_true rfl⟩) (rd_V hK hP (ci := 1) (q0 := 0) rfl rfl rfl) rfl rfl hl.1 rfl (lv_room (Nat.le_of_ble_eq_true rfl)) dX4_withImmediate_74 ⟨Nat.le_of_ble_eq_true rfl, Nat.le_of_ble_eq_true rfl⟩) ?_
      refine W.eq (g2 := F0 m 77 ls [.long (f_X4_immediateI u), .long u.2.2.2.2.2.2.1, .int p1, .int p0, .ref g0]) rfl ?_
      refine lv_iload hx hb dX4_withImmediate_77 (lv_at hl 0 rfl) ?_
      refine W.callV (W.runS (As := [.int p1, .long u.2.2.2.2.2.2.1, .long (f_X4_immediateI u), .int (f_X4_bits u (25 : Int32) (20 : Int32))]) (rest := [.int p0, .ref g0]) ⟨hx, hb, hml, hown, hts⟩ (mt_X4_plain l p1 u.2.2.2.2.2.2.1 (f_X4_immediateI u) (f_X4_bits u (25 : Int32) (20 : Int32))) (va_cwS 4 hts gX4_102_X4_plain rfl rfl rfl (by decide +kernel) ⟨Nat.le_of_ble_eq_true rfl, Nat.le_of_ble_eq_true rfl⟩) preEq rfl rfl hl.1 rfl (lv_room (Nat.le_of_ble_eq_true rfl)) dX4_withImmediate_79 ⟨Nat.le_of_ble_eq_true rfl, Nat.le_of_ble_eq_true rfl⟩) ?_
      refine W.eq (g2 := F0 m 82 ls [.long (f_X4_plain p1 u.2.2.2.2.2.2.1 (f_X4_immediateI u) (f_X4_bits u (25 : Int32) (20 : Int32))), .int p0, .ref g0]) rfl ?_
      refine wr_calli (wr := []) (va_runV (As := [.int p0, .long (f_X4_plain p1 u.2.2.2.2.2.2.1 (f_X4_immediateI u) (f_X4_bits u (25 : Int32) (20 : Int32)))]) (rest := []) ⟨hx, hb, hml, hown, hts⟩ (mt_X4_done_ l dC dI g0 g1 g2 cB cC s.heap.size u p0 (f_X4_plain p1 u.2.2.2.2.2.2.1 (f_X4_immediateI u) (f_X4_bits u (25 : Int32) (20 : Int32))) hd) (cwV 2 hts gX4_106_X4_done_ rfl rfl rfl (by decide +kernel) ⟨Nat.le_of_ble_eq_true rfl, Nat.le_of_ble_eq_true rfl⟩) (wr_V hK hP hD (ci := 1) (q0 := 0) rfl rfl rfl) rfl rfl hl.1 rfl (lv_room (Nat.le_of_ble_eq_true rfl)) dX4_withImmediate_82 ⟨Nat.le_of_ble_eq_true rfl, Nat.le_of_ble_eq_true rfl⟩) hS hP hD hA [0, 1, 2] [] rfl rfl (by decide) (by decide) (fun r_ v_ H locs hw hP hD hS => ?_)
      obtain ⟨rfl, rfl⟩ := hw
      refine W.eq (g2 := F0 m 85 ls [.int (f_X4_done_ u p0 (f_X4_plain p1 u.2.2.2.2.2.2.1 (f_X4_immediateI u) (f_X4_bits u (25 : Int32) (20 : Int32)))).1]) rfl ?_
      have hP : va_P (dC, dI) vwCl (Wm g0 g1 g2 cB cC (f_X4_done_ u p0 (f_X4_plain p1 u.2.2.2.2.2.2.1 (f_X4_immediateI u) (f_X4_bits u (25 : Int32) (20 : Int32)))).2) H := hP
      have hD : va_D A (Wm g0 g1 g2 cB cC (f_X4_done_ u p0 (f_X4_plain p1 u.2.2.2.2.2.2.1 (f_X4_immediateI u) (f_X4_bits u (25 : Int32) (20 : Int32)))).2) := hD
      have hF : f_X4_withImmediate u p0 p1 = ((f_X4_done_ u p0 (f_X4_plain p1 u.2.2.2.2.2.2.1 (f_X4_immediateI u) (f_X4_bits u (25 : Int32) (20 : Int32)))).1, (f_X4_done_ u p0 (f_X4_plain p1 u.2.2.2.2.2.2.1 (f_X4_immediateI u) (f_X4_bits u (25 : Int32) (20 : Int32)))).2) := by unfold f_X4_withImmediate; rw [if_neg c1, if_neg c2]
      exact W.iret (v := (f_X4_done_ u p0 (f_X4_plain p1 u.2.2.2.2.2.2.1 (f_X4_immediateI u) (f_X4_bits u (25 : Int32) (20 : Int32)))).1) hx hb hr (fun t ht hW => ⟨⟨(f_X4_done_ u p0 (f_X4_plain p1 u.2.2.2.2.2.2.1 (f_X4_immediateI u) (f_X4_bits u (25 : Int32) (20 : Int32)))).1, (f_X4_done_ u p0 (f_X4_plain p1 u.2.2.2.2.2.2.1 (f_X4_immediateI u) (f_X4_bits u (25 : Int32) (20 : Int32)))).2, rfl, ⟨(congrArg Prod.fst hF).symm, (congrArg Prod.snd hF).symm⟩, by rw [ht]; exact hP, va_K.moved hW.alike hK, hD⟩, hS.F ht⟩) hS.2.2 dX4_withImmediate_85
    · refine lv_iload_n hx hb dX4_withImmediate_23 rfl (lv_at hl 0 rfl) ?_
      refine lv_if_eq (tgt := 35) hx hb dX4_withImmediate_24 (by decide) (fun c3 => ?_) (fun c3 => ?_)
      · refine lv_aload_n hx hb dX4_withImmediate_35 rfl (lv_at hl 1 rfl) ?_
        refine lv_bipush (v := (25 : Int32)) hx hb dX4_withImmediate_36 (by decide) ?_
        refine lv_bipush (v := (20 : Int32)) hx hb dX4_withImmediate_38 (by decide) ?_
        refine W.callV (W.runV (As := [.int (25 : Int32), .int (20 : Int32)]) (rest := []) ⟨hx, hb, hml, hown, hts⟩ (mt_X4_bits l dC dI g0 g1 g2 cB cC u (25 : Int32) (20 : Int32) 20 6 (by decide) (by decide) (by decide) (by decide) (by decide)) (cwV 2 hts gX4_47_X4_bits rfl rfl rfl (by decide +kernel) ⟨Nat.le_of_ble_eq_true rfl, Nat.le_of_ble_eq_true rfl⟩) (rd_V hK hP (ci := 1) (q0 := 0) rfl rfl rfl) rfl rfl hl.1 rfl (lv_room (Nat.le_of_ble_eq_true rfl)) dX4_withImmediate_40 ⟨Nat.le_of_ble_eq_true rfl, Nat.le_of_ble_eq_true rfl⟩) ?_
        refine W.eq (g2 := F0 m 43 ls [.int (f_X4_bits u (25 : Int32) (20 : Int32))]) rfl ?_
        refine lv_istore (lv' := [(4, .int (f_X4_bits u (25 : Int32) (20 : Int32))), (3, .int (f_X4_bits u (31 : Int32) (26 : Int32))), (0, .ref g0), (1, .int p0), (2, .int p1)]) hx hb dX4_withImmediate_43 hl (by decide) rfl (fun ls hl => ?_)
        refine lv_aload_n hx hb dX4_withImmediate_45 rfl (lv_at hl 2 rfl) ?_
        refine lv_iload_n hx hb dX4_withImmediate_46 rfl (lv_at hl 3 rfl) ?_
        refine lv_iload_n hx hb dX4_withImmediate_47 rfl (lv_at hl 4 rfl) ?_
        refine lv_iconst (v := (5 : Int32)) hx hb dX4_withImmediate_48 (by decide) ?_
        refine lv_icmp_ne (tgt := 68) hx hb dX4_withImmediate_49 (by decide) (fun c_ => absurd c2 c_) (fun _ => ?_)
        refine lv_iload_n hx hb dX4_withImmediate_52 rfl (lv_at hl 1 rfl) ?_
        refine lv_bipush (v := (16 : Int32)) hx hb dX4_withImmediate_53 (by decide) ?_
        refine lv_icmp_ne (tgt := 68) hx hb dX4_withImmediate_55 (by decide) (fun c4 => ?_) (fun c4 => ?_)
        · refine lv_iload_n hx hb dX4_withImmediate_68 rfl (lv_at hl 4 rfl) ?_
          refine lv_aload_n hx hb dX4_withImmediate_69 rfl (lv_at hl 2 rfl) ?_
          refine va_get (D := (dC, dI)) (ci := 1) (v := .long u.2.2.2.2.2.2.1) (C := RX4) (T := TX4) (N := 13) hx hb hts inX4 hown hK hP 0 rfl rfl 6 (by decide) (hts _ qw_287) (fun _ h9 => h9) rfl dX4_withImmediate_70 ?_
          refine lv_aload_n hx hb dX4_withImmediate_73 rfl (lv_at hl 2 rfl) ?_
          refine W.callV (W.runV (As := []) (rest := [.long u.2.2.2.2.2.2.1, .int p1, .int p0, .ref g0]) ⟨hx, hb, hml, hown, hts⟩ (mt_X4_immediateI l dC dI g0 g1 g2 cB cC u ) (cwV 0 hts gX4_99_X4_immediateI rfl rfl rfl (by decide +kernel) ⟨Nat.le_of_ble_eq_true rfl, Nat.le_of_ble_eq_true rfl⟩) (rd_V hK hP (ci := 1) (q0 := 0) rfl rfl rfl) rfl rfl hl.1 rfl (lv_room (Nat.le_of_ble_eq_true rfl)) dX4_withImmediate_74 ⟨Nat.le_of_ble_eq_true rfl, Nat.le_of_ble_eq_true rfl⟩) ?_
          refine W.eq (g2 := F0 m 77 ls [.long (f_X4_immediateI u), .long u.2.2.2.2.2.2.1, .int p1, .int p0, .ref g0]) rfl ?_
          refine lv_iload hx hb dX4_withImmediate_77 (lv_at hl 0 rfl) ?_
          refine W.callV (W.runS (As := [.int p1, .long u.2.2.2.2.2.2.1, .long (f_X4_immediateI u), .int (f_X4_bits u (25 : Int32) (20 : Int32))]) (rest := [.int p0, .ref g0]) ⟨hx, hb, hml, hown, hts⟩ (mt_X4_plain l p1 u.2.2.2.2.2.2.1 (f_X4_immediateI u) (f_X4_bits u (25 : Int32) (20 : Int32))) (va_cwS 4 hts gX4_102_X4_plain rfl rfl rfl (by decide +kernel) ⟨Nat.le_of_ble_eq_true rfl, Nat.le_of_ble_eq_true rfl⟩) preEq rfl rfl hl.1 rfl (lv_room (Nat.le_of_ble_eq_true rfl)) dX4_withImmediate_79 ⟨Nat.le_of_ble_eq_true rfl, Nat.le_of_ble_eq_true rfl⟩) ?_
          refine W.eq (g2 := F0 m 82 ls [.long (f_X4_plain p1 u.2.2.2.2.2.2.1 (f_X4_immediateI u) (f_X4_bits u (25 : Int32) (20 : Int32))), .int p0, .ref g0]) rfl ?_
          refine wr_calli (wr := []) (va_runV (As := [.int p0, .long (f_X4_plain p1 u.2.2.2.2.2.2.1 (f_X4_immediateI u) (f_X4_bits u (25 : Int32) (20 : Int32)))]) (rest := []) ⟨hx, hb, hml, hown, hts⟩ (mt_X4_done_ l dC dI g0 g1 g2 cB cC s.heap.size u p0 (f_X4_plain p1 u.2.2.2.2.2.2.1 (f_X4_immediateI u) (f_X4_bits u (25 : Int32) (20 : Int32))) hd) (cwV 2 hts gX4_106_X4_done_ rfl rfl rfl (by decide +kernel) ⟨Nat.le_of_ble_eq_true rfl, Nat.le_of_ble_eq_true rfl⟩) (wr_V hK hP hD (ci := 1) (q0 := 0) rfl rfl rfl) rfl rfl hl.1 rfl (lv_room (Nat.le_of_ble_eq_true rfl)) dX4_withImmediate_82 ⟨Nat.le_of_ble_eq_true rfl, Nat.le_of_ble_eq_true rfl⟩) hS hP hD hA [0, 1, 2] [] rfl rfl (by decide) (by decide) (fun r_ v_ H locs hw hP hD hS => ?_)
          obtain ⟨rfl, rfl⟩ := hw
          refine W.eq (g2 := F0 m 85 ls [.int (f_X4_done_ u p0 (f_X4_plain p1 u.2.2.2.2.2.2.1 (f_X4_immediateI u) (f_X4_bits u (25 : Int32) (20 : Int32)))).1]) rfl ?_
          have hP : va_P (dC, dI) vwCl (Wm g0 g1 g2 cB cC (f_X4_done_ u p0 (f_X4_plain p1 u.2.2.2.2.2.2.1 (f_X4_immediateI u) (f_X4_bits u (25 : Int32) (20 : Int32)))).2) H := hP
          have hD : va_D A (Wm g0 g1 g2 cB cC (f_X4_done_ u p0 (f_X4_plain p1 u.2.2.2.2.2.2.1 (f_X4_immediateI u) (f_X4_bits u (25 : Int32) (20 : Int32)))).2) := hD
          have hF : f_X4_withImmediate u p0 p1 = ((f_X4_done_ u p0 (f_X4_plain p1 u.2.2.2.2.2.2.1 (f_X4_immediateI u) (f_X4_bits u (25 : Int32) (20 : Int32)))).1, (f_X4_done_ u p0 (f_X4_plain p1 u.2.2.2.2.2.2.1 (f_X4_immediateI u) (f_X4_bits u (25 : Int32) (20 : Int32)))).2) := by unfold f_X4_withImmediate; rw [if_neg c1, if_pos c2, if_pos c3, if_neg c4]
          exact W.iret (v := (f_X4_done_ u p0 (f_X4_plain p1 u.2.2.2.2.2.2.1 (f_X4_immediateI u) (f_X4_bits u (25 : Int32) (20 : Int32)))).1) hx hb hr (fun t ht hW => ⟨⟨(f_X4_done_ u p0 (f_X4_plain p1 u.2.2.2.2.2.2.1 (f_X4_immediateI u) (f_X4_bits u (25 : Int32) (20 : Int32)))).1, (f_X4_done_ u p0 (f_X4_plain p1 u.2.2.2.2.2.2.1 (f_X4_immediateI u) (f_X4_bits u (25 : Int32) (20 : Int32)))).2, rfl, ⟨(congrArg Prod.fst hF).symm, (congrArg Prod.snd hF).symm⟩, by rw [ht]; exact hP, va_K.moved hW.alike hK, hD⟩, hS.F ht⟩) hS.2.2 dX4_withImmediate_85
        · refine lv_aload_n hx hb dX4_withImmediate_58 rfl (lv_at hl 2 rfl) ?_
          refine va_get (D := (dC, dI)) (ci := 1) (v := .long u.2.2.2.2.2.2.1) (C := RX4) (T := TX4) (N := 13) hx hb hts inX4 hown hK hP 0 rfl rfl 6 (by decide) (hts _ qw_287) (fun _ h9 => h9) rfl dX4_withImmediate_59 ?_
          refine lv_iload hx hb dX4_withImmediate_62 (lv_at hl 0 rfl) ?_
          refine lv_lshr (v := (j_lshr u.2.2.2.2.2.2.1 (f_X4_bits u (25 : Int32) (20 : Int32)))) hx hb dX4_withImmediate_64 rfl ?_
          refine lv_goto (tgt := 82) hx hb dX4_withImmediate_65 (by decide) ?_
          refine wr_calli (wr := []) (va_runV (As := [.int p0, .long (j_lshr u.2.2.2.2.2.2.1 (f_X4_bits u (25 : Int32) (20 : Int32)))]) (rest := []) ⟨hx, hb, hml, hown, hts⟩ (mt_X4_done_ l dC dI g0 g1 g2 cB cC s.heap.size u p0 (j_lshr u.2.2.2.2.2.2.1 (f_X4_bits u (25 : Int32) (20 : Int32))) hd) (cwV 2 hts gX4_106_X4_done_ rfl rfl rfl (by decide +kernel) ⟨Nat.le_of_ble_eq_true rfl, Nat.le_of_ble_eq_true rfl⟩) (wr_V hK hP hD (ci := 1) (q0 := 0) rfl rfl rfl) rfl rfl hl.1 rfl (lv_room (Nat.le_of_ble_eq_true rfl)) dX4_withImmediate_82 ⟨Nat.le_of_ble_eq_true rfl, Nat.le_of_ble_eq_true rfl⟩) hS hP hD hA [0, 1, 2] [] rfl rfl (by decide) (by decide) (fun r_ v_ H locs hw hP hD hS => ?_)
          obtain ⟨rfl, rfl⟩ := hw
          refine W.eq (g2 := F0 m 85 ls [.int (f_X4_done_ u p0 (j_lshr u.2.2.2.2.2.2.1 (f_X4_bits u (25 : Int32) (20 : Int32)))).1]) rfl ?_
          have hP : va_P (dC, dI) vwCl (Wm g0 g1 g2 cB cC (f_X4_done_ u p0 (j_lshr u.2.2.2.2.2.2.1 (f_X4_bits u (25 : Int32) (20 : Int32)))).2) H := hP
          have hD : va_D A (Wm g0 g1 g2 cB cC (f_X4_done_ u p0 (j_lshr u.2.2.2.2.2.2.1 (f_X4_bits u (25 : Int32) (20 : Int32)))).2) := hD
          have hF : f_X4_withImmediate u p0 p1 = ((f_X4_done_ u p0 (j_lshr u.2.2.2.2.2.2.1 (f_X4_bits u (25 : Int32) (20 : Int32)))).1, (f_X4_done_ u p0 (j_lshr u.2.2.2.2.2.2.1 (f_X4_bits u (25 : Int32) (20 : Int32)))).2) := by unfold f_X4_withImmediate; rw [if_neg c1, if_pos c2, if_pos c3, if_pos c4]
          exact W.iret (v := (f_X4_done_ u p0 (j_lshr u.2.2.2.2.2.2.1 (f_X4_bits u (25 : Int32) (20 : Int32)))).1) hx hb hr (fun t ht hW => ⟨⟨(f_X4_done_ u p0 (j_lshr u.2.2.2.2.2.2.1 (f_X4_bits u (25 : Int32) (20 : Int32)))).1, (f_X4_done_ u p0 (j_lshr u.2.2.2.2.2.2.1 (f_X4_bits u (25 : Int32) (20 : Int32)))).2, rfl, ⟨(congrArg Prod.fst hF).symm, (congrArg Prod.snd hF).symm⟩, by rw [ht]; exact hP, va_K.moved hW.alike hK, hD⟩, hS.F ht⟩) hS.2.2 dX4_withImmediate_85
      · refine lv_iload_n hx hb dX4_withImmediate_27 rfl (lv_at hl 0 rfl) ?_
        refine lv_bipush (v := (16 : Int32)) hx hb dX4_withImmediate_28 (by decide) ?_
        refine lv_icmp_eq (tgt := 35) hx hb dX4_withImmediate_30 (by decide) (fun c5 => ?_) (fun c5 => ?_)
        · refine lv_aload_n hx hb dX4_withImmediate_35 rfl (lv_at hl 1 rfl) ?_
          refine lv_bipush (v := (25 : Int32)) hx hb dX4_withImmediate_36 (by decide) ?_
          refine lv_bipush (v := (20 : Int32)) hx hb dX4_withImmediate_38 (by decide) ?_
          refine W.callV (W.runV (As := [.int (25 : Int32), .int (20 : Int32)]) (rest := []) ⟨hx, hb, hml, hown, hts⟩ (mt_X4_bits l dC dI g0 g1 g2 cB cC u (25 : Int32) (20 : Int32) 20 6 (by decide) (by decide) (by decide) (by decide) (by decide)) (cwV 2 hts gX4_47_X4_bits rfl rfl rfl (by decide +kernel) ⟨Nat.le_of_ble_eq_true rfl, Nat.le_of_ble_eq_true rfl⟩) (rd_V hK hP (ci := 1) (q0 := 0) rfl rfl rfl) rfl rfl hl.1 rfl (lv_room (Nat.le_of_ble_eq_true rfl)) dX4_withImmediate_40 ⟨Nat.le_of_ble_eq_true rfl, Nat.le_of_ble_eq_true rfl⟩) ?_
          refine W.eq (g2 := F0 m 43 ls [.int (f_X4_bits u (25 : Int32) (20 : Int32))]) rfl ?_
          refine lv_istore (lv' := [(4, .int (f_X4_bits u (25 : Int32) (20 : Int32))), (3, .int (f_X4_bits u (31 : Int32) (26 : Int32))), (0, .ref g0), (1, .int p0), (2, .int p1)]) hx hb dX4_withImmediate_43 hl (by decide) rfl (fun ls hl => ?_)
          refine lv_aload_n hx hb dX4_withImmediate_45 rfl (lv_at hl 2 rfl) ?_
          refine lv_iload_n hx hb dX4_withImmediate_46 rfl (lv_at hl 3 rfl) ?_
          refine lv_iload_n hx hb dX4_withImmediate_47 rfl (lv_at hl 4 rfl) ?_
          refine lv_iconst (v := (5 : Int32)) hx hb dX4_withImmediate_48 (by decide) ?_
          refine lv_icmp_ne (tgt := 68) hx hb dX4_withImmediate_49 (by decide) (fun c_ => absurd c2 c_) (fun _ => ?_)
          refine lv_iload_n hx hb dX4_withImmediate_52 rfl (lv_at hl 1 rfl) ?_
          refine lv_bipush (v := (16 : Int32)) hx hb dX4_withImmediate_53 (by decide) ?_
          refine lv_icmp_ne (tgt := 68) hx hb dX4_withImmediate_55 (by decide) (fun c_ => absurd c5 c_) (fun _ => ?_)
          refine lv_aload_n hx hb dX4_withImmediate_58 rfl (lv_at hl 2 rfl) ?_
          refine va_get (D := (dC, dI)) (ci := 1) (v := .long u.2.2.2.2.2.2.1) (C := RX4) (T := TX4) (N := 13) hx hb hts inX4 hown hK hP 0 rfl rfl 6 (by decide) (hts _ qw_287) (fun _ h9 => h9) rfl dX4_withImmediate_59 ?_
          refine lv_iload hx hb dX4_withImmediate_62 (lv_at hl 0 rfl) ?_
          refine lv_lshr (v := (j_lshr u.2.2.2.2.2.2.1 (f_X4_bits u (25 : Int32) (20 : Int32)))) hx hb dX4_withImmediate_64 rfl ?_
          refine lv_goto (tgt := 82) hx hb dX4_withImmediate_65 (by decide) ?_
          refine wr_calli (wr := []) (va_runV (As := [.int p0, .long (j_lshr u.2.2.2.2.2.2.1 (f_X4_bits u (25 : Int32) (20 : Int32)))]) (rest := []) ⟨hx, hb, hml, hown, hts⟩ (mt_X4_done_ l dC dI g0 g1 g2 cB cC s.heap.size u p0 (j_lshr u.2.2.2.2.2.2.1 (f_X4_bits u (25 : Int32) (20 : Int32))) hd) (cwV 2 hts gX4_106_X4_done_ rfl rfl rfl (by decide +kernel) ⟨Nat.le_of_ble_eq_true rfl, Nat.le_of_ble_eq_true rfl⟩) (wr_V hK hP hD (ci := 1) (q0 := 0) rfl rfl rfl) rfl rfl hl.1 rfl (lv_room (Nat.le_of_ble_eq_true rfl)) dX4_withImmediate_82 ⟨Nat.le_of_ble_eq_true rfl, Nat.le_of_ble_eq_true rfl⟩) hS hP hD hA [0, 1, 2] [] rfl rfl (by decide) (by decide) (fun r_ v_ H locs hw hP hD hS => ?_)
          obtain ⟨rfl, rfl⟩ := hw
          refine W.eq (g2 := F0 m 85 ls [.int (f_X4_done_ u p0 (j_lshr u.2.2.2.2.2.2.1 (f_X4_bits u (25 : Int32) (20 : Int32)))).1]) rfl ?_
          have hP : va_P (dC, dI) vwCl (Wm g0 g1 g2 cB cC (f_X4_done_ u p0 (j_lshr u.2.2.2.2.2.2.1 (f_X4_bits u (25 : Int32) (20 : Int32)))).2) H := hP
          have hD : va_D A (Wm g0 g1 g2 cB cC (f_X4_done_ u p0 (j_lshr u.2.2.2.2.2.2.1 (f_X4_bits u (25 : Int32) (20 : Int32)))).2) := hD
          have hF : f_X4_withImmediate u p0 p1 = ((f_X4_done_ u p0 (j_lshr u.2.2.2.2.2.2.1 (f_X4_bits u (25 : Int32) (20 : Int32)))).1, (f_X4_done_ u p0 (j_lshr u.2.2.2.2.2.2.1 (f_X4_bits u (25 : Int32) (20 : Int32)))).2) := by unfold f_X4_withImmediate; rw [if_neg c1, if_pos c2, if_neg c3, if_pos c5]
          exact W.iret (v := (f_X4_done_ u p0 (j_lshr u.2.2.2.2.2.2.1 (f_X4_bits u (25 : Int32) (20 : Int32)))).1) hx hb hr (fun t ht hW => ⟨⟨(f_X4_done_ u p0 (j_lshr u.2.2.2.2.2.2.1 (f_X4_bits u (25 : Int32) (20 : Int32)))).1, (f_X4_done_ u p0 (j_lshr u.2.2.2.2.2.2.1 (f_X4_bits u (25 : Int32) (20 : Int32)))).2, rfl, ⟨(congrArg Prod.fst hF).symm, (congrArg Prod.snd hF).symm⟩, by rw [ht]; exact hP, va_K.moved hW.alike hK, hD⟩, hS.F ht⟩) hS.2.2 dX4_withImmediate_85
        · refine lv_iconst (v := (-1 : Int32)) hx hb dX4_withImmediate_33 (by decide) ?_
          have hF : f_X4_withImmediate u p0 p1 = ((-1 : Int32), u) := by unfold f_X4_withImmediate; rw [if_neg c1, if_pos c2, if_neg c3, if_neg c5]
          exact W.iret (v := (-1 : Int32)) hx hb hr (fun t ht hW => ⟨⟨(-1 : Int32), u, rfl, ⟨(congrArg Prod.fst hF).symm, (congrArg Prod.snd hF).symm⟩, by rw [ht]; exact hP, va_K.moved hW.alike hK, hD⟩, hS.F ht⟩) hS.2.2 dX4_withImmediate_34
  · refine lv_iload_n hx hb dX4_withImmediate_14 rfl (lv_at hl 0 rfl) ?_
    refine lv_if_ne (tgt := 33) hx hb dX4_withImmediate_15 (by decide) (fun c6 => ?_) (fun c6 => ?_)
    · refine lv_iconst (v := (-1 : Int32)) hx hb dX4_withImmediate_33 (by decide) ?_
      have hF : f_X4_withImmediate u p0 p1 = ((-1 : Int32), u) := by unfold f_X4_withImmediate; rw [if_pos c1, if_neg c6]
      exact W.iret (v := (-1 : Int32)) hx hb hr (fun t ht hW => ⟨⟨(-1 : Int32), u, rfl, ⟨(congrArg Prod.fst hF).symm, (congrArg Prod.snd hF).symm⟩, by rw [ht]; exact hP, va_K.moved hW.alike hK, hD⟩, hS.F ht⟩) hS.2.2 dX4_withImmediate_34
    · refine lv_iload_n hx hb dX4_withImmediate_18 rfl (lv_at hl 3 rfl) ?_
      refine lv_iconst (v := (5 : Int32)) hx hb dX4_withImmediate_19 (by decide) ?_
      refine lv_icmp_ne (tgt := 35) hx hb dX4_withImmediate_20 (by decide) (fun c7 => ?_) (fun c7 => ?_)
      · refine lv_aload_n hx hb dX4_withImmediate_35 rfl (lv_at hl 1 rfl) ?_
        refine lv_bipush (v := (25 : Int32)) hx hb dX4_withImmediate_36 (by decide) ?_
        refine lv_bipush (v := (20 : Int32)) hx hb dX4_withImmediate_38 (by decide) ?_
        refine W.callV (W.runV (As := [.int (25 : Int32), .int (20 : Int32)]) (rest := []) ⟨hx, hb, hml, hown, hts⟩ (mt_X4_bits l dC dI g0 g1 g2 cB cC u (25 : Int32) (20 : Int32) 20 6 (by decide) (by decide) (by decide) (by decide) (by decide)) (cwV 2 hts gX4_47_X4_bits rfl rfl rfl (by decide +kernel) ⟨Nat.le_of_ble_eq_true rfl, Nat.le_of_ble_eq_true rfl⟩) (rd_V hK hP (ci := 1) (q0 := 0) rfl rfl rfl) rfl rfl hl.1 rfl (lv_room (Nat.le_of_ble_eq_true rfl)) dX4_withImmediate_40 ⟨Nat.le_of_ble_eq_true rfl, Nat.le_of_ble_eq_true rfl⟩) ?_
        refine W.eq (g2 := F0 m 43 ls [.int (f_X4_bits u (25 : Int32) (20 : Int32))]) rfl ?_
        refine lv_istore (lv' := [(4, .int (f_X4_bits u (25 : Int32) (20 : Int32))), (3, .int (f_X4_bits u (31 : Int32) (26 : Int32))), (0, .ref g0), (1, .int p0), (2, .int p1)]) hx hb dX4_withImmediate_43 hl (by decide) rfl (fun ls hl => ?_)
        refine lv_aload_n hx hb dX4_withImmediate_45 rfl (lv_at hl 2 rfl) ?_
        refine lv_iload_n hx hb dX4_withImmediate_46 rfl (lv_at hl 3 rfl) ?_
        refine lv_iload_n hx hb dX4_withImmediate_47 rfl (lv_at hl 4 rfl) ?_
        refine lv_iconst (v := (5 : Int32)) hx hb dX4_withImmediate_48 (by decide) ?_
        refine lv_icmp_ne (tgt := 68) hx hb dX4_withImmediate_49 (by decide) (fun _ => ?_) (fun c_ => absurd c_ c7)
        refine lv_iload_n hx hb dX4_withImmediate_68 rfl (lv_at hl 4 rfl) ?_
        refine lv_aload_n hx hb dX4_withImmediate_69 rfl (lv_at hl 2 rfl) ?_
        refine va_get (D := (dC, dI)) (ci := 1) (v := .long u.2.2.2.2.2.2.1) (C := RX4) (T := TX4) (N := 13) hx hb hts inX4 hown hK hP 0 rfl rfl 6 (by decide) (hts _ qw_287) (fun _ h9 => h9) rfl dX4_withImmediate_70 ?_
        refine lv_aload_n hx hb dX4_withImmediate_73 rfl (lv_at hl 2 rfl) ?_
        refine W.callV (W.runV (As := []) (rest := [.long u.2.2.2.2.2.2.1, .int p1, .int p0, .ref g0]) ⟨hx, hb, hml, hown, hts⟩ (mt_X4_immediateI l dC dI g0 g1 g2 cB cC u ) (cwV 0 hts gX4_99_X4_immediateI rfl rfl rfl (by decide +kernel) ⟨Nat.le_of_ble_eq_true rfl, Nat.le_of_ble_eq_true rfl⟩) (rd_V hK hP (ci := 1) (q0 := 0) rfl rfl rfl) rfl rfl hl.1 rfl (lv_room (Nat.le_of_ble_eq_true rfl)) dX4_withImmediate_74 ⟨Nat.le_of_ble_eq_true rfl, Nat.le_of_ble_eq_true rfl⟩) ?_
        refine W.eq (g2 := F0 m 77 ls [.long (f_X4_immediateI u), .long u.2.2.2.2.2.2.1, .int p1, .int p0, .ref g0]) rfl ?_
        refine lv_iload hx hb dX4_withImmediate_77 (lv_at hl 0 rfl) ?_
        refine W.callV (W.runS (As := [.int p1, .long u.2.2.2.2.2.2.1, .long (f_X4_immediateI u), .int (f_X4_bits u (25 : Int32) (20 : Int32))]) (rest := [.int p0, .ref g0]) ⟨hx, hb, hml, hown, hts⟩ (mt_X4_plain l p1 u.2.2.2.2.2.2.1 (f_X4_immediateI u) (f_X4_bits u (25 : Int32) (20 : Int32))) (va_cwS 4 hts gX4_102_X4_plain rfl rfl rfl (by decide +kernel) ⟨Nat.le_of_ble_eq_true rfl, Nat.le_of_ble_eq_true rfl⟩) preEq rfl rfl hl.1 rfl (lv_room (Nat.le_of_ble_eq_true rfl)) dX4_withImmediate_79 ⟨Nat.le_of_ble_eq_true rfl, Nat.le_of_ble_eq_true rfl⟩) ?_
        refine W.eq (g2 := F0 m 82 ls [.long (f_X4_plain p1 u.2.2.2.2.2.2.1 (f_X4_immediateI u) (f_X4_bits u (25 : Int32) (20 : Int32))), .int p0, .ref g0]) rfl ?_
        refine wr_calli (wr := []) (va_runV (As := [.int p0, .long (f_X4_plain p1 u.2.2.2.2.2.2.1 (f_X4_immediateI u) (f_X4_bits u (25 : Int32) (20 : Int32)))]) (rest := []) ⟨hx, hb, hml, hown, hts⟩ (mt_X4_done_ l dC dI g0 g1 g2 cB cC s.heap.size u p0 (f_X4_plain p1 u.2.2.2.2.2.2.1 (f_X4_immediateI u) (f_X4_bits u (25 : Int32) (20 : Int32))) hd) (cwV 2 hts gX4_106_X4_done_ rfl rfl rfl (by decide +kernel) ⟨Nat.le_of_ble_eq_true rfl, Nat.le_of_ble_eq_true rfl⟩) (wr_V hK hP hD (ci := 1) (q0 := 0) rfl rfl rfl) rfl rfl hl.1 rfl (lv_room (Nat.le_of_ble_eq_true rfl)) dX4_withImmediate_82 ⟨Nat.le_of_ble_eq_true rfl, Nat.le_of_ble_eq_true rfl⟩) hS hP hD hA [0, 1, 2] [] rfl rfl (by decide) (by decide) (fun r_ v_ H locs hw hP hD hS => ?_)
        obtain ⟨rfl, rfl⟩ := hw
        refine W.eq (g2 := F0 m 85 ls [.int (f_X4_done_ u p0 (f_X4_plain p1 u.2.2.2.2.2.2.1 (f_X4_immediateI u) (f_X4_bits u (25 : Int32) (20 : Int32)))).1]) rfl ?_
        have hP : va_P (dC, dI) vwCl (Wm g0 g1 g2 cB cC (f_X4_done_ u p0 (f_X4_plain p1 u.2.2.2.2.2.2.1 (f_X4_immediateI u) (f_X4_bits u (25 : Int32) (20 : Int32)))).2) H := hP
        have hD : va_D A (Wm g0 g1 g2 cB cC (f_X4_done_ u p0 (f_X4_plain p1 u.2.2.2.2.2.2.1 (f_X4_immediateI u) (f_X4_bits u (25 : Int32) (20 : Int32)))).2) := hD
        have hF : f_X4_withImmediate u p0 p1 = ((f_X4_done_ u p0 (f_X4_plain p1 u.2.2.2.2.2.2.1 (f_X4_immediateI u) (f_X4_bits u (25 : Int32) (20 : Int32)))).1, (f_X4_done_ u p0 (f_X4_plain p1 u.2.2.2.2.2.2.1 (f_X4_immediateI u) (f_X4_bits u (25 : Int32) (20 : Int32)))).2) := by unfold f_X4_withImmediate; rw [if_pos c1, if_pos c6, if_neg c7]
        exact W.iret (v := (f_X4_done_ u p0 (f_X4_plain p1 u.2.2.2.2.2.2.1 (f_X4_immediateI u) (f_X4_bits u (25 : Int32) (20 : Int32)))).1) hx hb hr (fun t ht hW => ⟨⟨(f_X4_done_ u p0 (f_X4_plain p1 u.2.2.2.2.2.2.1 (f_X4_immediateI u) (f_X4_bits u (25 : Int32) (20 : Int32)))).1, (f_X4_done_ u p0 (f_X4_plain p1 u.2.2.2.2.2.2.1 (f_X4_immediateI u) (f_X4_bits u (25 : Int32) (20 : Int32)))).2, rfl, ⟨(congrArg Prod.fst hF).symm, (congrArg Prod.snd hF).symm⟩, by rw [ht]; exact hP, va_K.moved hW.alike hK, hD⟩, hS.F ht⟩) hS.2.2 dX4_withImmediate_85
      · refine lv_iload_n hx hb dX4_withImmediate_23 rfl (lv_at hl 0 rfl) ?_
        refine lv_if_eq (tgt := 35) hx hb dX4_withImmediate_24 (by decide) (fun _ => ?_) (fun c_ => absurd c6 c_)
        refine lv_aload_n hx hb dX4_withImmediate_35 rfl (lv_at hl 1 rfl) ?_
        refine lv_bipush (v := (25 : Int32)) hx hb dX4_withImmediate_36 (by decide) ?_
        refine lv_bipush (v := (20 : Int32)) hx hb dX4_withImmediate_38 (by decide) ?_
        refine W.callV (W.runV (As := [.int (25 : Int32), .int (20 : Int32)]) (rest := []) ⟨hx, hb, hml, hown, hts⟩ (mt_X4_bits l dC dI g0 g1 g2 cB cC u (25 : Int32) (20 : Int32) 20 6 (by decide) (by decide) (by decide) (by decide) (by decide)) (cwV 2 hts gX4_47_X4_bits rfl rfl rfl (by decide +kernel) ⟨Nat.le_of_ble_eq_true rfl, Nat.le_of_ble_eq_true rfl⟩) (rd_V hK hP (ci := 1) (q0 := 0) rfl rfl rfl) rfl rfl hl.1 rfl (lv_room (Nat.le_of_ble_eq_true rfl)) dX4_withImmediate_40 ⟨Nat.le_of_ble_eq_true rfl, Nat.le_of_ble_eq_true rfl⟩) ?_
        refine W.eq (g2 := F0 m 43 ls [.int (f_X4_bits u (25 : Int32) (20 : Int32))]) rfl ?_
        refine lv_istore (lv' := [(4, .int (f_X4_bits u (25 : Int32) (20 : Int32))), (3, .int (f_X4_bits u (31 : Int32) (26 : Int32))), (0, .ref g0), (1, .int p0), (2, .int p1)]) hx hb dX4_withImmediate_43 hl (by decide) rfl (fun ls hl => ?_)
        refine lv_aload_n hx hb dX4_withImmediate_45 rfl (lv_at hl 2 rfl) ?_
        refine lv_iload_n hx hb dX4_withImmediate_46 rfl (lv_at hl 3 rfl) ?_
        refine lv_iload_n hx hb dX4_withImmediate_47 rfl (lv_at hl 4 rfl) ?_
        refine lv_iconst (v := (5 : Int32)) hx hb dX4_withImmediate_48 (by decide) ?_
        refine lv_icmp_ne (tgt := 68) hx hb dX4_withImmediate_49 (by decide) (fun c_ => absurd c7 c_) (fun _ => ?_)
        refine lv_iload_n hx hb dX4_withImmediate_52 rfl (lv_at hl 1 rfl) ?_
        refine lv_bipush (v := (16 : Int32)) hx hb dX4_withImmediate_53 (by decide) ?_
        refine lv_icmp_ne (tgt := 68) hx hb dX4_withImmediate_55 (by decide) (fun c8 => ?_) (fun c8 => ?_)
        · refine lv_iload_n hx hb dX4_withImmediate_68 rfl (lv_at hl 4 rfl) ?_
          refine lv_aload_n hx hb dX4_withImmediate_69 rfl (lv_at hl 2 rfl) ?_
          refine va_get (D := (dC, dI)) (ci := 1) (v := .long u.2.2.2.2.2.2.1) (C := RX4) (T := TX4) (N := 13) hx hb hts inX4 hown hK hP 0 rfl rfl 6 (by decide) (hts _ qw_287) (fun _ h9 => h9) rfl dX4_withImmediate_70 ?_
          refine lv_aload_n hx hb dX4_withImmediate_73 rfl (lv_at hl 2 rfl) ?_
          refine W.callV (W.runV (As := []) (rest := [.long u.2.2.2.2.2.2.1, .int p1, .int p0, .ref g0]) ⟨hx, hb, hml, hown, hts⟩ (mt_X4_immediateI l dC dI g0 g1 g2 cB cC u ) (cwV 0 hts gX4_99_X4_immediateI rfl rfl rfl (by decide +kernel) ⟨Nat.le_of_ble_eq_true rfl, Nat.le_of_ble_eq_true rfl⟩) (rd_V hK hP (ci := 1) (q0 := 0) rfl rfl rfl) rfl rfl hl.1 rfl (lv_room (Nat.le_of_ble_eq_true rfl)) dX4_withImmediate_74 ⟨Nat.le_of_ble_eq_true rfl, Nat.le_of_ble_eq_true rfl⟩) ?_
          refine W.eq (g2 := F0 m 77 ls [.long (f_X4_immediateI u), .long u.2.2.2.2.2.2.1, .int p1, .int p0, .ref g0]) rfl ?_
          refine lv_iload hx hb dX4_withImmediate_77 (lv_at hl 0 rfl) ?_
          refine W.callV (W.runS (As := [.int p1, .long u.2.2.2.2.2.2.1, .long (f_X4_immediateI u), .int (f_X4_bits u (25 : Int32) (20 : Int32))]) (rest := [.int p0, .ref g0]) ⟨hx, hb, hml, hown, hts⟩ (mt_X4_plain l p1 u.2.2.2.2.2.2.1 (f_X4_immediateI u) (f_X4_bits u (25 : Int32) (20 : Int32))) (va_cwS 4 hts gX4_102_X4_plain rfl rfl rfl (by decide +kernel) ⟨Nat.le_of_ble_eq_true rfl, Nat.le_of_ble_eq_true rfl⟩) preEq rfl rfl hl.1 rfl (lv_room (Nat.le_of_ble_eq_true rfl)) dX4_withImmediate_79 ⟨Nat.le_of_ble_eq_true rfl, Nat.le_of_ble_eq_true rfl⟩) ?_
          refine W.eq (g2 := F0 m 82 ls [.long (f_X4_plain p1 u.2.2.2.2.2.2.1 (f_X4_immediateI u) (f_X4_bits u (25 : Int32) (20 : Int32))), .int p0, .ref g0]) rfl ?_
          refine wr_calli (wr := []) (va_runV (As := [.int p0, .long (f_X4_plain p1 u.2.2.2.2.2.2.1 (f_X4_immediateI u) (f_X4_bits u (25 : Int32) (20 : Int32)))]) (rest := []) ⟨hx, hb, hml, hown, hts⟩ (mt_X4_done_ l dC dI g0 g1 g2 cB cC s.heap.size u p0 (f_X4_plain p1 u.2.2.2.2.2.2.1 (f_X4_immediateI u) (f_X4_bits u (25 : Int32) (20 : Int32))) hd) (cwV 2 hts gX4_106_X4_done_ rfl rfl rfl (by decide +kernel) ⟨Nat.le_of_ble_eq_true rfl, Nat.le_of_ble_eq_true rfl⟩) (wr_V hK hP hD (ci := 1) (q0 := 0) rfl rfl rfl) rfl rfl hl.1 rfl (lv_room (Nat.le_of_ble_eq_true rfl)) dX4_withImmediate_82 ⟨Nat.le_of_ble_eq_true rfl, Nat.le_of_ble_eq_true rfl⟩) hS hP hD hA [0, 1, 2] [] rfl rfl (by decide) (by decide) (fun r_ v_ H locs hw hP hD hS => ?_)
          obtain ⟨rfl, rfl⟩ := hw
          refine W.eq (g2 := F0 m 85 ls [.int (f_X4_done_ u p0 (f_X4_plain p1 u.2.2.2.2.2.2.1 (f_X4_immediateI u) (f_X4_bits u (25 : Int32) (20 : Int32)))).1]) rfl ?_
          have hP : va_P (dC, dI) vwCl (Wm g0 g1 g2 cB cC (f_X4_done_ u p0 (f_X4_plain p1 u.2.2.2.2.2.2.1 (f_X4_immediateI u) (f_X4_bits u (25 : Int32) (20 : Int32)))).2) H := hP
          have hD : va_D A (Wm g0 g1 g2 cB cC (f_X4_done_ u p0 (f_X4_plain p1 u.2.2.2.2.2.2.1 (f_X4_immediateI u) (f_X4_bits u (25 : Int32) (20 : Int32)))).2) := hD
          have hF : f_X4_withImmediate u p0 p1 = ((f_X4_done_ u p0 (f_X4_plain p1 u.2.2.2.2.2.2.1 (f_X4_immediateI u) (f_X4_bits u (25 : Int32) (20 : Int32)))).1, (f_X4_done_ u p0 (f_X4_plain p1 u.2.2.2.2.2.2.1 (f_X4_immediateI u) (f_X4_bits u (25 : Int32) (20 : Int32)))).2) := by unfold f_X4_withImmediate; rw [if_pos c1, if_pos c6, if_pos c7, if_neg c8]
          exact W.iret (v := (f_X4_done_ u p0 (f_X4_plain p1 u.2.2.2.2.2.2.1 (f_X4_immediateI u) (f_X4_bits u (25 : Int32) (20 : Int32)))).1) hx hb hr (fun t ht hW => ⟨⟨(f_X4_done_ u p0 (f_X4_plain p1 u.2.2.2.2.2.2.1 (f_X4_immediateI u) (f_X4_bits u (25 : Int32) (20 : Int32)))).1, (f_X4_done_ u p0 (f_X4_plain p1 u.2.2.2.2.2.2.1 (f_X4_immediateI u) (f_X4_bits u (25 : Int32) (20 : Int32)))).2, rfl, ⟨(congrArg Prod.fst hF).symm, (congrArg Prod.snd hF).symm⟩, by rw [ht]; exact hP, va_K.moved hW.alike hK, hD⟩, hS.F ht⟩) hS.2.2 dX4_withImmediate_85
        · refine lv_aload_n hx hb dX4_withImmediate_58 rfl (lv_at hl 2 rfl) ?_
          refine va_get (D := (dC, dI)) (ci := 1) (v := .long u.2.2.2.2.2.2.1) (C := RX4) (T := TX4) (N := 13) hx hb hts inX4 hown hK hP 0 rfl rfl 6 (by decide) (hts _ qw_287) (fun _ h9 => h9) rfl dX4_withImmediate_59 ?_
          refine lv_iload hx hb dX4_withImmediate_62 (lv_at hl 0 rfl) ?_
          refine lv_lshr (v := (j_lshr u.2.2.2.2.2.2.1 (f_X4_bits u (25 : Int32) (20 : Int32)))) hx hb dX4_withImmediate_64 rfl ?_
          refine lv_goto (tgt := 82) hx hb dX4_withImmediate_65 (by decide) ?_
          refine wr_calli (wr := []) (va_runV (As := [.int p0, .long (j_lshr u.2.2.2.2.2.2.1 (f_X4_bits u (25 : Int32) (20 : Int32)))]) (rest := []) ⟨hx, hb, hml, hown, hts⟩ (mt_X4_done_ l dC dI g0 g1 g2 cB cC s.heap.size u p0 (j_lshr u.2.2.2.2.2.2.1 (f_X4_bits u (25 : Int32) (20 : Int32))) hd) (cwV 2 hts gX4_106_X4_done_ rfl rfl rfl (by decide +kernel) ⟨Nat.le_of_ble_eq_true rfl, Nat.le_of_ble_eq_true rfl⟩) (wr_V hK hP hD (ci := 1) (q0 := 0) rfl rfl rfl) rfl rfl hl.1 rfl (lv_room (Nat.le_of_ble_eq_true rfl)) dX4_withImmediate_82 ⟨Nat.le_of_ble_eq_true rfl, Nat.le_of_ble_eq_true rfl⟩) hS hP hD hA [0, 1, 2] [] rfl rfl (by decide) (by decide) (fun r_ v_ H locs hw hP hD hS => ?_)
          obtain ⟨rfl, rfl⟩ := hw
          refine W.eq (g2 := F0 m 85 ls [.int (f_X4_done_ u p0 (j_lshr u.2.2.2.2.2.2.1 (f_X4_bits u (25 : Int32) (20 : Int32)))).1]) rfl ?_
          have hP : va_P (dC, dI) vwCl (Wm g0 g1 g2 cB cC (f_X4_done_ u p0 (j_lshr u.2.2.2.2.2.2.1 (f_X4_bits u (25 : Int32) (20 : Int32)))).2) H := hP
          have hD : va_D A (Wm g0 g1 g2 cB cC (f_X4_done_ u p0 (j_lshr u.2.2.2.2.2.2.1 (f_X4_bits u (25 : Int32) (20 : Int32)))).2) := hD
          have hF : f_X4_withImmediate u p0 p1 = ((f_X4_done_ u p0 (j_lshr u.2.2.2.2.2.2.1 (f_X4_bits u (25 : Int32) (20 : Int32)))).1, (f_X4_done_ u p0 (j_lshr u.2.2.2.2.2.2.1 (f_X4_bits u (25 : Int32) (20 : Int32)))).2) := by unfold f_X4_withImmediate; rw [if_pos c1, if_pos c6, if_pos c7, if_pos c8]
          exact W.iret (v := (f_X4_done_ u p0 (j_lshr u.2.2.2.2.2.2.1 (f_X4_bits u (25 : Int32) (20 : Int32)))).1) hx hb hr (fun t ht hW => ⟨⟨(f_X4_done_ u p0 (j_lshr u.2.2.2.2.2.2.1 (f_X4_bits u (25 : Int32) (20 : Int32)))).1, (f_X4_done_ u p0 (j_lshr u.2.2.2.2.2.2.1 (f_X4_bits u (25 : Int32) (20 : Int32)))).2, rfl, ⟨(congrArg Prod.fst hF).symm, (congrArg Prod.snd hF).symm⟩, by rw [ht]; exact hP, va_K.moved hW.alike hK, hD⟩, hS.F ht⟩) hS.2.2 dX4_withImmediate_85

noncomputable def f_X4_withRegister (u : SmT) (p0 : Int32) (p1 : Int32) (p2 : Int32) : Int32 × SmT :=
  if p2 = 0 then
    ((f_X4_done_ u p0 (f_X4_plain p1 u.2.2.2.2.2.2.1 u.2.2.2.2.2.2.2.1 (u.2.2.2.2.2.2.2.1 &&& (63 : Int64)).toInt32)).1, (f_X4_done_ u p0 (f_X4_plain p1 u.2.2.2.2.2.2.1 u.2.2.2.2.2.2.2.1 (u.2.2.2.2.2.2.2.1 &&& (63 : Int64)).toInt32)).2)
  else if p2 = (32 : Int32) then
    if p1 = 0 then
      ((f_X4_done_ u p0 (u.2.2.2.2.2.2.1 - u.2.2.2.2.2.2.2.1)).1, (f_X4_done_ u p0 (u.2.2.2.2.2.2.1 - u.2.2.2.2.2.2.2.1)).2)
    else if p1 = (5 : Int32) then
      ((f_X4_done_ u p0 (j_lshr u.2.2.2.2.2.2.1 (u.2.2.2.2.2.2.2.1 &&& (63 : Int64)).toInt32)).1, (f_X4_done_ u p0 (j_lshr u.2.2.2.2.2.2.1 (u.2.2.2.2.2.2.2.1 &&& (63 : Int64)).toInt32)).2)
    else if p2 = (1 : Int32) then
      ((f_X4_done_ (f_X4_product u p1).2 p0 (f_X4_product u p1).1).1, (f_X4_done_ (f_X4_product u p1).2 p0 (f_X4_product u p1).1).2)
    else
      ((-1 : Int32), u)
  else if p2 = (1 : Int32) then
    ((f_X4_done_ (f_X4_product u p1).2 p0 (f_X4_product u p1).1).1, (f_X4_done_ (f_X4_product u p1).2 p0 (f_X4_product u p1).1).2)
  else
    ((-1 : Int32), u)
set_option maxHeartbeats 4000000 in
set_option maxRecDepth 100000 in
theorem mt_X4_withRegister (l : Launch) (dC : Nat → ClassId) (dI : Nat → Nat → Nat) (g0 g1 g2 : Nat) (cB cC : ClassId) (sz : Nat) (u : SmT) (p0 : Int32) (p1 : Int32) (p2 : Int32) (hd : p0 ≤ (31 : Int32)) : Met l yX4_withRegister wsX4_withRegister ({ frames := 4, cells := 0, slots := 0, locals := 97 }) (wr_P [.ref g0, .int p0, .int p1, .int p2] (dC, dI) vwCl (Wm g0 g1 g2 cB cC u) [(cB, .long), (cC, .long)] sz) (va_Qi (fun r v => r = (f_X4_withRegister u p0 p1 p2).1 ∧ v = (f_X4_withRegister u p0 p1 p2).2) (wr_B (dC, dI) vwCl [(cB, .long), (cC, .long)] (va_A (Wm g0 g1 g2 cB cC u) sz) (Wm g0 g1 g2 cB cC)) (va_A (Wm g0 g1 g2 cB cC u) sz)) 0 0 (va_A (Wm g0 g1 g2 cB cC u) sz) := by
  refine Met.ofW (cc := cX4_withRegister) (maxL := 5) (ret := (some .int)) (by decide) rfl ?_
  intro p e s m args below meth c s₁ B hml hv
  obtain ⟨rfl, hsz, hP, hK, hD0⟩ := hv
  have hx := B.exec
  have hb := B.bytes
  have hr := B.returns
  have hts0 := atoms_spec (ws := wsX4_withRegister) B.pre
  have hts := fun (w : Cond) (h : w ∈ lw_G) => hts0 w (List.mem_cons_of_mem _ h)
  have hown : s.vm.findClass RX4 = some m.cls := findClass_of_methodNamed B.named
  have hlocks := B.notSynchronized
  subst hsz
  have hD := hD0.self (sz := s.heap.size)
  generalize hAe : va_A (Wm g0 g1 g2 cB cC u) s.heap.size = A at hD ⊢
  have hA : ∀ q : Nat, s.heap.size ≤ q → A q := fun q h => by rw [← hAe]; exact Or.inr h
  have hS : va_S A s.heap s.heap [] := va_S.rf
  have hl := lv_entry ([.ref g0, .int p0, .int p1, .int p2]) (n := 5) (Nat.le_of_ble_eq_true rfl)
  rw [lg_entry_eq]
  generalize (lg_sl ([.ref g0, .int p0, .int p1, .int p2]) ++ List.replicate (5 - (lg_sl ([.ref g0, .int p0, .int p1, .int p2])).length) Slot.unset).toArray = ls at hl ⊢
  have hl : lv_has ls 5 [(0, .ref g0), (1, .int p0), (2, .int p1), (3, .int p2)] := hl
  refine lv_aload_n hx hb dX4_withRegister_0 rfl (lv_at hl 0 rfl) ?_
  refine va_get (D := (dC, dI)) (ci := 1) (v := .long u.2.2.2.2.2.2.2.1) (C := RX4) (T := TX4) (N := 13) hx hb hts inX4 hown hK hP 0 rfl rfl 7 (by decide) (hts _ qw_288) (fun _ h9 => h9) rfl dX4_withRegister_1 ?_
  refine lv_ldc2 (v := (63 : Int64)) hx hb hown (hts _ qw_319) dX4_withRegister_4 ?_
  refine lv_land hx hb dX4_withRegister_7 ?_
  refine lv_l2i (v := (u.2.2.2.2.2.2.2.1 &&& (63 : Int64)).toInt32) hx hb dX4_withRegister_8 rfl ?_
  refine lv_istore (lv' := [(4, .int (u.2.2.2.2.2.2.2.1 &&& (63 : Int64)).toInt32), (0, .ref g0), (1, .int p0), (2, .int p1), (3, .int p2)]) hx hb dX4_withRegister_9 hl (by decide) rfl (fun ls hl => ?_)
  refine lv_iload_n hx hb dX4_withRegister_11 rfl (lv_at hl 4 rfl) ?_
  refine lv_if_ne (tgt := 35) hx hb dX4_withRegister_12 (by decide) (fun c1 => ?_) (fun c1 => ?_)
  · refine lv_iload_n hx hb dX4_withRegister_35 rfl (lv_at hl 4 rfl) ?_
    refine lv_bipush (v := (32 : Int32)) hx hb dX4_withRegister_36 (by decide) ?_
    refine lv_icmp_ne (tgt := 79) hx hb dX4_withRegister_38 (by decide) (fun c2 => ?_) (fun c2 => ?_)
    · refine lv_iload_n hx hb dX4_withRegister_79 rfl (lv_at hl 4 rfl) ?_
      refine lv_iconst (v := (1 : Int32)) hx hb dX4_withRegister_80 (by decide) ?_
      refine lv_icmp_ne (tgt := 97) hx hb dX4_withRegister_81 (by decide) (fun c3 => ?_) (fun c3 => ?_)
      · refine lv_iconst (v := (-1 : Int32)) hx hb dX4_withRegister_97 (by decide) ?_
        have hF : f_X4_withRegister u p0 p1 p2 = ((-1 : Int32), u) := by unfold f_X4_withRegister; rw [if_neg c1, if_neg c2, if_neg c3]
        exact W.iret (v := (-1 : Int32)) hx hb hr (fun t ht hW => ⟨⟨(-1 : Int32), u, rfl, ⟨(congrArg Prod.fst hF).symm, (congrArg Prod.snd hF).symm⟩, by rw [ht]; exact hP, va_K.moved hW.alike hK, hD⟩, hS.F ht⟩) hS.2.2 dX4_withRegister_98
      · refine lv_aload_n hx hb dX4_withRegister_84 rfl (lv_at hl 1 rfl) ?_
        refine lv_iload_n hx hb dX4_withRegister_85 rfl (lv_at hl 2 rfl) ?_
        refine lv_aload_n hx hb dX4_withRegister_86 rfl (lv_at hl 1 rfl) ?_
        refine lv_iload_n hx hb dX4_withRegister_87 rfl (lv_at hl 3 rfl) ?_
        refine wr_calll (wr := []) (va_runV (As := [.int p1]) (rest := [.int p0, .ref g0]) ⟨hx, hb, hml, hown, hts⟩ (mt_X4_product l dC dI g0 g1 g2 cB cC s.heap.size u p1) (cwV 1 hts gX4_120_X4_product rfl rfl rfl (by decide +kernel) ⟨Nat.le_of_ble_eq_true rfl, Nat.le_of_ble_eq_true rfl⟩) (wr_V hK hP hD (ci := 1) (q0 := 0) rfl rfl rfl) rfl rfl hl.1 rfl (lv_room (Nat.le_of_ble_eq_true rfl)) dX4_withRegister_88 ⟨Nat.le_of_ble_eq_true rfl, Nat.le_of_ble_eq_true rfl⟩) hS hP hD hA [0, 1, 2] [] rfl rfl (by decide) (by decide) (fun r_ v_ H locs hw hP hD hS => ?_)
        obtain ⟨rfl, rfl⟩ := hw
        refine W.eq (g2 := F0 m 91 ls [.long (f_X4_product u p1).1, .int p0, .ref g0]) rfl ?_
        have hP : va_P (dC, dI) vwCl (Wm g0 g1 g2 cB cC (f_X4_product u p1).2) H := hP
        have hD : va_D A (Wm g0 g1 g2 cB cC (f_X4_product u p1).2) := hD
        refine wr_calli (wr := []) (va_runV (As := [.int p0, .long (f_X4_product u p1).1]) (rest := []) ⟨hx, hb, hml, hown, hts⟩ (mt_X4_done_ l dC dI g0 g1 g2 cB cC H.size (f_X4_product u p1).2 p0 (f_X4_product u p1).1 hd) (cwV 2 hts gX4_106_X4_done_ rfl rfl rfl (by decide +kernel) ⟨Nat.le_of_ble_eq_true rfl, Nat.le_of_ble_eq_true rfl⟩) (wr_V hK hP hD (ci := 1) (q0 := 0) rfl rfl rfl) rfl rfl hl.1 rfl (lv_room (Nat.le_of_ble_eq_true rfl)) dX4_withRegister_91 ⟨Nat.le_of_ble_eq_true rfl, Nat.le_of_ble_eq_true rfl⟩) hS hP hD hA [0, 1, 2] [] rfl rfl (by decide) (by decide) (fun r_ v_ H locs hw hP hD hS => ?_)
        obtain ⟨rfl, rfl⟩ := hw
        refine W.eq (g2 := F0 m 94 ls [.int (f_X4_done_ (f_X4_product u p1).2 p0 (f_X4_product u p1).1).1]) rfl ?_
        have hP : va_P (dC, dI) vwCl (Wm g0 g1 g2 cB cC (f_X4_done_ (f_X4_product u p1).2 p0 (f_X4_product u p1).1).2) H := hP
        have hD : va_D A (Wm g0 g1 g2 cB cC (f_X4_done_ (f_X4_product u p1).2 p0 (f_X4_product u p1).1).2) := hD
        refine lv_goto (tgt := 98) hx hb dX4_withRegister_94 (by decide) ?_
        have hF : f_X4_withRegister u p0 p1 p2 = ((f_X4_done_ (f_X4_product u p1).2 p0 (f_X4_product u p1).1).1, (f_X4_done_ (f_X4_product u p1).2 p0 (f_X4_product u p1).1).2) := by unfold f_X4_withRegister; rw [if_neg c1, if_neg c2, if_pos c3]
        exact W.iret (v := (f_X4_done_ (f_X4_product u p1).2 p0 (f_X4_product u p1).1).1) hx hb hr (fun t ht hW => ⟨⟨(f_X4_done_ (f_X4_product u p1).2 p0 (f_X4_product u p1).1).1, (f_X4_done_ (f_X4_product u p1).2 p0 (f_X4_product u p1).1).2, rfl, ⟨(congrArg Prod.fst hF).symm, (congrArg Prod.snd hF).symm⟩, by rw [ht]; exact hP, va_K.moved hW.alike hK, hD⟩, hS.F ht⟩) hS.2.2 dX4_withRegister_98
    · refine lv_iload_n hx hb dX4_withRegister_41 rfl (lv_at hl 3 rfl) ?_
      refine lv_if_eq (tgt := 50) hx hb dX4_withRegister_42 (by decide) (fun c4 => ?_) (fun c4 => ?_)
      · refine lv_aload_n hx hb dX4_withRegister_50 rfl (lv_at hl 1 rfl) ?_
        refine lv_iload_n hx hb dX4_withRegister_51 rfl (lv_at hl 2 rfl) ?_
        refine lv_iload_n hx hb dX4_withRegister_52 rfl (lv_at hl 3 rfl) ?_
        refine lv_if_ne (tgt := 68) hx hb dX4_withRegister_53 (by decide) (fun c_ => absurd c4 c_) (fun _ => ?_)
        refine lv_aload_n hx hb dX4_withRegister_56 rfl (lv_at hl 1 rfl) ?_
        refine va_get (D := (dC, dI)) (ci := 1) (v := .long u.2.2.2.2.2.2.1) (C := RX4) (T := TX4) (N := 13) hx hb hts inX4 hown hK hP 0 rfl rfl 6 (by decide) (hts _ qw_287) (fun _ h9 => h9) rfl dX4_withRegister_57 ?_
        refine lv_aload_n hx hb dX4_withRegister_60 rfl (lv_at hl 1 rfl) ?_
        refine va_get (D := (dC, dI)) (ci := 1) (v := .long u.2.2.2.2.2.2.2.1) (C := RX4) (T := TX4) (N := 13) hx hb hts inX4 hown hK hP 0 rfl rfl 7 (by decide) (hts _ qw_288) (fun _ h9 => h9) rfl dX4_withRegister_61 ?_
        refine lv_lsub hx hb dX4_withRegister_64 ?_
        refine lv_goto (tgt := 75) hx hb dX4_withRegister_65 (by decide) ?_
        refine wr_calli (wr := []) (va_runV (As := [.int p0, .long (u.2.2.2.2.2.2.1 - u.2.2.2.2.2.2.2.1)]) (rest := []) ⟨hx, hb, hml, hown, hts⟩ (mt_X4_done_ l dC dI g0 g1 g2 cB cC s.heap.size u p0 (u.2.2.2.2.2.2.1 - u.2.2.2.2.2.2.2.1) hd) (cwV 2 hts gX4_106_X4_done_ rfl rfl rfl (by decide +kernel) ⟨Nat.le_of_ble_eq_true rfl, Nat.le_of_ble_eq_true rfl⟩) (wr_V hK hP hD (ci := 1) (q0 := 0) rfl rfl rfl) rfl rfl hl.1 rfl (lv_room (Nat.le_of_ble_eq_true rfl)) dX4_withRegister_75 ⟨Nat.le_of_ble_eq_true rfl, Nat.le_of_ble_eq_true rfl⟩) hS hP hD hA [0, 1, 2] [] rfl rfl (by decide) (by decide) (fun r_ v_ H locs hw hP hD hS => ?_)
        obtain ⟨rfl, rfl⟩ := hw
        refine W.eq (g2 := F0 m 78 ls [.int (f_X4_done_ u p0 (u.2.2.2.2.2.2.1 - u.2.2.2.2.2.2.2.1)).1]) rfl ?_
        have hP : va_P (dC, dI) vwCl (Wm g0 g1 g2 cB cC (f_X4_done_ u p0 (u.2.2.2.2.2.2.1 - u.2.2.2.2.2.2.2.1)).2) H := hP
        have hD : va_D A (Wm g0 g1 g2 cB cC (f_X4_done_ u p0 (u.2.2.2.2.2.2.1 - u.2.2.2.2.2.2.2.1)).2) := hD
        have hF : f_X4_withRegister u p0 p1 p2 = ((f_X4_done_ u p0 (u.2.2.2.2.2.2.1 - u.2.2.2.2.2.2.2.1)).1, (f_X4_done_ u p0 (u.2.2.2.2.2.2.1 - u.2.2.2.2.2.2.2.1)).2) := by unfold f_X4_withRegister; rw [if_neg c1, if_pos c2, if_pos c4]
        exact W.iret (v := (f_X4_done_ u p0 (u.2.2.2.2.2.2.1 - u.2.2.2.2.2.2.2.1)).1) hx hb hr (fun t ht hW => ⟨⟨(f_X4_done_ u p0 (u.2.2.2.2.2.2.1 - u.2.2.2.2.2.2.2.1)).1, (f_X4_done_ u p0 (u.2.2.2.2.2.2.1 - u.2.2.2.2.2.2.2.1)).2, rfl, ⟨(congrArg Prod.fst hF).symm, (congrArg Prod.snd hF).symm⟩, by rw [ht]; exact hP, va_K.moved hW.alike hK, hD⟩, hS.F ht⟩) hS.2.2 dX4_withRegister_78
      · refine lv_iload_n hx hb dX4_withRegister_45 rfl (lv_at hl 3 rfl) ?_
        refine lv_iconst (v := (5 : Int32)) hx hb dX4_withRegister_46 (by decide) ?_
        refine lv_icmp_ne (tgt := 79) hx hb dX4_withRegister_47 (by decide) (fun c5 => ?_) (fun c5 => ?_)
        · refine lv_iload_n hx hb dX4_withRegister_79 rfl (lv_at hl 4 rfl) ?_
          refine lv_iconst (v := (1 : Int32)) hx hb dX4_withRegister_80 (by decide) ?_
          refine lv_icmp_ne (tgt := 97) hx hb dX4_withRegister_81 (by decide) (fun c6 => ?_) (fun c6 => ?_)
          · refine lv_iconst (v := (-1 : Int32)) hx hb dX4_withRegister_97 (by decide) ?_
            have hF : f_X4_withRegister u p0 p1 p2 = ((-1 : Int32), u) := by unfold f_X4_withRegister; rw [if_neg c1, if_pos c2, if_neg c4, if_neg c5, if_neg c6]
            exact W.iret (v := (-1 : Int32)) hx hb hr (fun t ht hW => ⟨⟨(-1 : Int32), u, rfl, ⟨(congrArg Prod.fst hF).symm, (congrArg Prod.snd hF).symm⟩, by rw [ht]; exact hP, va_K.moved hW.alike hK, hD⟩, hS.F ht⟩) hS.2.2 dX4_withRegister_98
          · refine lv_aload_n hx hb dX4_withRegister_84 rfl (lv_at hl 1 rfl) ?_
            refine lv_iload_n hx hb dX4_withRegister_85 rfl (lv_at hl 2 rfl) ?_
            refine lv_aload_n hx hb dX4_withRegister_86 rfl (lv_at hl 1 rfl) ?_
            refine lv_iload_n hx hb dX4_withRegister_87 rfl (lv_at hl 3 rfl) ?_
            refine wr_calll (wr := []) (va_runV (As := [.int p1]) (rest := [.int p0, .ref g0]) ⟨hx, hb, hml, hown, hts⟩ (mt_X4_product l dC dI g0 g1 g2 cB cC s.heap.size u p1) (cwV 1 hts gX4_120_X4_product rfl rfl rfl (by decide +kernel) ⟨Nat.le_of_ble_eq_true rfl, Nat.le_of_ble_eq_true rfl⟩) (wr_V hK hP hD (ci := 1) (q0 := 0) rfl rfl rfl) rfl rfl hl.1 rfl (lv_room (Nat.le_of_ble_eq_true rfl)) dX4_withRegister_88 ⟨Nat.le_of_ble_eq_true rfl, Nat.le_of_ble_eq_true rfl⟩) hS hP hD hA [0, 1, 2] [] rfl rfl (by decide) (by decide) (fun r_ v_ H locs hw hP hD hS => ?_)
            obtain ⟨rfl, rfl⟩ := hw
            refine W.eq (g2 := F0 m 91 ls [.long (f_X4_product u p1).1, .int p0, .ref g0]) rfl ?_
            have hP : va_P (dC, dI) vwCl (Wm g0 g1 g2 cB cC (f_X4_product u p1).2) H := hP
            have hD : va_D A (Wm g0 g1 g2 cB cC (f_X4_product u p1).2) := hD
            refine wr_calli (wr := []) (va_runV (As := [.int p0, .long (f_X4_product u p1).1]) (rest := []) ⟨hx, hb, hml, hown, hts⟩ (mt_X4_done_ l dC dI g0 g1 g2 cB cC H.size (f_X4_product u p1).2 p0 (f_X4_product u p1).1 hd) (cwV 2 hts gX4_106_X4_done_ rfl rfl rfl (by decide +kernel) ⟨Nat.le_of_ble_eq_true rfl, Nat.le_of_ble_eq_true rfl⟩) (wr_V hK hP hD (ci := 1) (q0 := 0) rfl rfl rfl) rfl rfl hl.1 rfl (lv_room (Nat.le_of_ble_eq_true rfl)) dX4_withRegister_91 ⟨Nat.le_of_ble_eq_true rfl, Nat.le_of_ble_eq_true rfl⟩) hS hP hD hA [0, 1, 2] [] rfl rfl (by decide) (by decide) (fun r_ v_ H locs hw hP hD hS => ?_)
            obtain ⟨rfl, rfl⟩ := hw
            refine W.eq (g2 := F0 m 94 ls [.int (f_X4_done_ (f_X4_product u p1).2 p0 (f_X4_product u p1).1).1]) rfl ?_
            have hP : va_P (dC, dI) vwCl (Wm g0 g1 g2 cB cC (f_X4_done_ (f_X4_product u p1).2 p0 (f_X4_product u p1).1).2) H := hP
            have hD : va_D A (Wm g0 g1 g2 cB cC (f_X4_done_ (f_X4_product u p1).2 p0 (f_X4_product u p1).1).2) := hD
            refine lv_goto (tgt := 98) hx hb dX4_withRegister_94 (by decide) ?_
            have hF : f_X4_withRegister u p0 p1 p2 = ((f_X4_done_ (f_X4_product u p1).2 p0 (f_X4_product u p1).1).1, (f_X4_done_ (f_X4_product u p1).2 p0 (f_X4_product u p1).1).2) := by unfold f_X4_withRegister; rw [if_neg c1, if_pos c2, if_neg c4, if_neg c5, if_pos c6]
            exact W.iret (v := (f_X4_done_ (f_X4_product u p1).2 p0 (f_X4_product u p1).1).1) hx hb hr (fun t ht hW => ⟨⟨(f_X4_done_ (f_X4_product u p1).2 p0 (f_X4_product u p1).1).1, (f_X4_done_ (f_X4_product u p1).2 p0 (f_X4_product u p1).1).2, rfl, ⟨(congrArg Prod.fst hF).symm, (congrArg Prod.snd hF).symm⟩, by rw [ht]; exact hP, va_K.moved hW.alike hK, hD⟩, hS.F ht⟩) hS.2.2 dX4_withRegister_98
        · refine lv_aload_n hx hb dX4_withRegister_50 rfl (lv_at hl 1 rfl) ?_
          refine lv_iload_n hx hb dX4_withRegister_51 rfl (lv_at hl 2 rfl) ?_
          refine lv_iload_n hx hb dX4_withRegister_52 rfl (lv_at hl 3 rfl) ?_
          refine lv_if_ne (tgt := 68) hx hb dX4_withRegister_53 (by decide) (fun _ => ?_) (fun c_ => absurd c_ c4)
          refine lv_aload_n hx hb dX4_withRegister_68 rfl (lv_at hl 1 rfl) ?_
          refine va_get (D := (dC, dI)) (ci := 1) (v := .long u.2.2.2.2.2.2.1) (C := RX4) (T := TX4) (N := 13) hx hb hts inX4 hown hK hP 0 rfl rfl 6 (by decide) (hts _ qw_287) (fun _ h9 => h9) rfl dX4_withRegister_69 ?_
          refine lv_iload hx hb dX4_withRegister_72 (lv_at hl 0 rfl) ?_
          refine lv_lshr (v := (j_lshr u.2.2.2.2.2.2.1 (u.2.2.2.2.2.2.2.1 &&& (63 : Int64)).toInt32)) hx hb dX4_withRegister_74 rfl ?_
          refine wr_calli (wr := []) (va_runV (As := [.int p0, .long (j_lshr u.2.2.2.2.2.2.1 (u.2.2.2.2.2.2.2.1 &&& (63 : Int64)).toInt32)]) (rest := []) ⟨hx, hb, hml, hown, hts⟩ (mt_X4_done_ l dC dI g0 g1 g2 cB cC s.heap.size u p0 (j_lshr u.2.2.2.2.2.2.1 (u.2.2.2.2.2.2.2.1 &&& (63 : Int64)).toInt32) hd) (cwV 2 hts gX4_106_X4_done_ rfl rfl rfl (by decide +kernel) ⟨Nat.le_of_ble_eq_true rfl, Nat.le_of_ble_eq_true rfl⟩) (wr_V hK hP hD (ci := 1) (q0 := 0) rfl rfl rfl) rfl rfl hl.1 rfl (lv_room (Nat.le_of_ble_eq_true rfl)) dX4_withRegister_75 ⟨Nat.le_of_ble_eq_true rfl, Nat.le_of_ble_eq_true rfl⟩) hS hP hD hA [0, 1, 2] [] rfl rfl (by decide) (by decide) (fun r_ v_ H locs hw hP hD hS => ?_)
          obtain ⟨rfl, rfl⟩ := hw
          refine W.eq (g2 := F0 m 78 ls [.int (f_X4_done_ u p0 (j_lshr u.2.2.2.2.2.2.1 (u.2.2.2.2.2.2.2.1 &&& (63 : Int64)).toInt32)).1]) rfl ?_
          have hP : va_P (dC, dI) vwCl (Wm g0 g1 g2 cB cC (f_X4_done_ u p0 (j_lshr u.2.2.2.2.2.2.1 (u.2.2.2.2.2.2.2.1 &&& (63 : Int64)).toInt32)).2) H := hP
          have hD : va_D A (Wm g0 g1 g2 cB cC (f_X4_done_ u p0 (j_lshr u.2.2.2.2.2.2.1 (u.2.2.2.2.2.2.2.1 &&& (63 : Int64)).toInt32)).2) := hD
          have hF : f_X4_withRegister u p0 p1 p2 = ((f_X4_done_ u p0 (j_lshr u.2.2.2.2.2.2.1 (u.2.2.2.2.2.2.2.1 &&& (63 : Int64)).toInt32)).1, (f_X4_done_ u p0 (j_lshr u.2.2.2.2.2.2.1 (u.2.2.2.2.2.2.2.1 &&& (63 : Int64)).toInt32)).2) := by unfold f_X4_withRegister; rw [if_neg c1, if_pos c2, if_neg c4, if_pos c5]
          exact W.iret (v := (f_X4_done_ u p0 (j_lshr u.2.2.2.2.2.2.1 (u.2.2.2.2.2.2.2.1 &&& (63 : Int64)).toInt32)).1) hx hb hr (fun t ht hW => ⟨⟨(f_X4_done_ u p0 (j_lshr u.2.2.2.2.2.2.1 (u.2.2.2.2.2.2.2.1 &&& (63 : Int64)).toInt32)).1, (f_X4_done_ u p0 (j_lshr u.2.2.2.2.2.2.1 (u.2.2.2.2.2.2.2.1 &&& (63 : Int64)).toInt32)).2, rfl, ⟨(congrArg Prod.fst hF).symm, (congrArg Prod.snd hF).symm⟩, by rw [ht]; exact hP, va_K.moved hW.alike hK, hD⟩, hS.F ht⟩) hS.2.2 dX4_withRegister_78
  · refine lv_aload_n hx hb dX4_withRegister_15 rfl (lv_at hl 1 rfl) ?_
    refine lv_iload_n hx hb dX4_withRegister_16 rfl (lv_at hl 2 rfl) ?_
    refine lv_iload_n hx hb dX4_withRegister_17 rfl (lv_at hl 3 rfl) ?_
    refine lv_aload_n hx hb dX4_withRegister_18 rfl (lv_at hl 1 rfl) ?_
    refine va_get (D := (dC, dI)) (ci := 1) (v := .long u.2.2.2.2.2.2.1) (C := RX4) (T := TX4) (N := 13) hx hb hts inX4 hown hK hP 0 rfl rfl 6 (by decide) (hts _ qw_287) (fun _ h9 => h9) rfl dX4_withRegister_19 ?_
    refine lv_aload_n hx hb dX4_withRegister_22 rfl (lv_at hl 1 rfl) ?_
    refine va_get (D := (dC, dI)) (ci := 1) (v := .long u.2.2.2.2.2.2.2.1) (C := RX4) (T := TX4) (N := 13) hx hb hts inX4 hown hK hP 0 rfl rfl 7 (by decide) (hts _ qw_288) (fun _ h9 => h9) rfl dX4_withRegister_23 ?_
    refine lv_iload hx hb dX4_withRegister_26 (lv_at hl 0 rfl) ?_
    refine W.callV (W.runS (As := [.int p1, .long u.2.2.2.2.2.2.1, .long u.2.2.2.2.2.2.2.1, .int (u.2.2.2.2.2.2.2.1 &&& (63 : Int64)).toInt32]) (rest := [.int p0, .ref g0]) ⟨hx, hb, hml, hown, hts⟩ (mt_X4_plain l p1 u.2.2.2.2.2.2.1 u.2.2.2.2.2.2.2.1 (u.2.2.2.2.2.2.2.1 &&& (63 : Int64)).toInt32) (va_cwS 4 hts gX4_102_X4_plain rfl rfl rfl (by decide +kernel) ⟨Nat.le_of_ble_eq_true rfl, Nat.le_of_ble_eq_true rfl⟩) preEq rfl rfl hl.1 rfl (lv_room (Nat.le_of_ble_eq_true rfl)) dX4_withRegister_28 ⟨Nat.le_of_ble_eq_true rfl, Nat.le_of_ble_eq_true rfl⟩) ?_
    refine W.eq (g2 := F0 m 31 ls [.long (f_X4_plain p1 u.2.2.2.2.2.2.1 u.2.2.2.2.2.2.2.1 (u.2.2.2.2.2.2.2.1 &&& (63 : Int64)).toInt32), .int p0, .ref g0]) rfl ?_
    refine wr_calli (wr := []) (va_runV (As := [.int p0, .long (f_X4_plain p1 u.2.2.2.2.2.2.1 u.2.2.2.2.2.2.2.1 (u.2.2.2.2.2.2.2.1 &&& (63 : Int64)).toInt32)]) (rest := []) ⟨hx, hb, hml, hown, hts⟩ (mt_X4_done_ l dC dI g0 g1 g2 cB cC s.heap.size u p0 (f_X4_plain p1 u.2.2.2.2.2.2.1 u.2.2.2.2.2.2.2.1 (u.2.2.2.2.2.2.2.1 &&& (63 : Int64)).toInt32) hd) (cwV 2 hts gX4_106_X4_done_ rfl rfl rfl (by decide +kernel) ⟨Nat.le_of_ble_eq_true rfl, Nat.le_of_ble_eq_true rfl⟩) (wr_V hK hP hD (ci := 1) (q0 := 0) rfl rfl rfl) rfl rfl hl.1 rfl (lv_room (Nat.le_of_ble_eq_true rfl)) dX4_withRegister_31 ⟨Nat.le_of_ble_eq_true rfl, Nat.le_of_ble_eq_true rfl⟩) hS hP hD hA [0, 1, 2] [] rfl rfl (by decide) (by decide) (fun r_ v_ H locs hw hP hD hS => ?_)
    obtain ⟨rfl, rfl⟩ := hw
    refine W.eq (g2 := F0 m 34 ls [.int (f_X4_done_ u p0 (f_X4_plain p1 u.2.2.2.2.2.2.1 u.2.2.2.2.2.2.2.1 (u.2.2.2.2.2.2.2.1 &&& (63 : Int64)).toInt32)).1]) rfl ?_
    have hP : va_P (dC, dI) vwCl (Wm g0 g1 g2 cB cC (f_X4_done_ u p0 (f_X4_plain p1 u.2.2.2.2.2.2.1 u.2.2.2.2.2.2.2.1 (u.2.2.2.2.2.2.2.1 &&& (63 : Int64)).toInt32)).2) H := hP
    have hD : va_D A (Wm g0 g1 g2 cB cC (f_X4_done_ u p0 (f_X4_plain p1 u.2.2.2.2.2.2.1 u.2.2.2.2.2.2.2.1 (u.2.2.2.2.2.2.2.1 &&& (63 : Int64)).toInt32)).2) := hD
    have hF : f_X4_withRegister u p0 p1 p2 = ((f_X4_done_ u p0 (f_X4_plain p1 u.2.2.2.2.2.2.1 u.2.2.2.2.2.2.2.1 (u.2.2.2.2.2.2.2.1 &&& (63 : Int64)).toInt32)).1, (f_X4_done_ u p0 (f_X4_plain p1 u.2.2.2.2.2.2.1 u.2.2.2.2.2.2.2.1 (u.2.2.2.2.2.2.2.1 &&& (63 : Int64)).toInt32)).2) := by unfold f_X4_withRegister; rw [if_pos c1]
    exact W.iret (v := (f_X4_done_ u p0 (f_X4_plain p1 u.2.2.2.2.2.2.1 u.2.2.2.2.2.2.2.1 (u.2.2.2.2.2.2.2.1 &&& (63 : Int64)).toInt32)).1) hx hb hr (fun t ht hW => ⟨⟨(f_X4_done_ u p0 (f_X4_plain p1 u.2.2.2.2.2.2.1 u.2.2.2.2.2.2.2.1 (u.2.2.2.2.2.2.2.1 &&& (63 : Int64)).toInt32)).1, (f_X4_done_ u p0 (f_X4_plain p1 u.2.2.2.2.2.2.1 u.2.2.2.2.2.2.2.1 (u.2.2.2.2.2.2.2.1 &&& (63 : Int64)).toInt32)).2, rfl, ⟨(congrArg Prod.fst hF).symm, (congrArg Prod.snd hF).symm⟩, by rw [ht]; exact hP, va_K.moved hW.alike hK, hD⟩, hS.F ht⟩) hS.2.2 dX4_withRegister_34

noncomputable def f_X4_intImmediate (u : SmT) (p0 : Int32) (p1 : Int32) (p2 : Int32) : Int32 × SmT :=
  if p1 = 0 then
    ((f_X4_done_ u p0 (u.2.2.2.2.2.2.1 + (f_X4_immediateI u)).toInt32.toInt64).1, (f_X4_done_ u p0 (u.2.2.2.2.2.2.1 + (f_X4_immediateI u)).toInt32.toInt64).2)
  else if p1 = (1 : Int32) then
    if p2 = 0 then
      ((f_X4_done_ u p0 (j_lshl u.2.2.2.2.2.2.1 (f_X4_bits u (24 : Int32) (20 : Int32))).toInt32.toInt64).1, (f_X4_done_ u p0 (j_lshl u.2.2.2.2.2.2.1 (f_X4_bits u (24 : Int32) (20 : Int32))).toInt32.toInt64).2)
    else if p1 = (5 : Int32) then
      if p2 = (32 : Int32) then
        ((f_X4_done_ u p0 (u.2.2.2.2.2.2.1.toInt32 >>> ((f_X4_bits u (24 : Int32) (20 : Int32)) &&& 31)).toInt64).1, (f_X4_done_ u p0 (u.2.2.2.2.2.2.1.toInt32 >>> ((f_X4_bits u (24 : Int32) (20 : Int32)) &&& 31)).toInt64).2)
      else
        ((-1 : Int32), u)
    else
      ((-1 : Int32), u)
  else if p1 = (5 : Int32) then
    if p2 = 0 then
      ((f_X4_done_ u p0 (j_iushr u.2.2.2.2.2.2.1.toInt32 (f_X4_bits u (24 : Int32) (20 : Int32))).toInt64).1, (f_X4_done_ u p0 (j_iushr u.2.2.2.2.2.2.1.toInt32 (f_X4_bits u (24 : Int32) (20 : Int32))).toInt64).2)
    else if p2 = (32 : Int32) then
      ((f_X4_done_ u p0 (u.2.2.2.2.2.2.1.toInt32 >>> ((f_X4_bits u (24 : Int32) (20 : Int32)) &&& 31)).toInt64).1, (f_X4_done_ u p0 (u.2.2.2.2.2.2.1.toInt32 >>> ((f_X4_bits u (24 : Int32) (20 : Int32)) &&& 31)).toInt64).2)
    else
      ((-1 : Int32), u)
  else
    ((-1 : Int32), u)
set_option maxHeartbeats 4000000 in
set_option maxRecDepth 100000 in
theorem mt_X4_intImmediate (l : Launch) (dC : Nat → ClassId) (dI : Nat → Nat → Nat) (g0 g1 g2 : Nat) (cB cC : ClassId) (sz : Nat) (u : SmT) (p0 : Int32) (p1 : Int32) (p2 : Int32) (hd : p0 ≤ (31 : Int32)) : Met l yX4_intImmediate wsX4_intImmediate ({ frames := 2, cells := 0, slots := 0, locals := 46 }) (wr_P [.ref g0, .int p0, .int p1, .int p2] (dC, dI) vwCl (Wm g0 g1 g2 cB cC u) [(cB, .long), (cC, .long)] sz) (va_Qi (fun r v => r = (f_X4_intImmediate u p0 p1 p2).1 ∧ v = (f_X4_intImmediate u p0 p1 p2).2) (wr_B (dC, dI) vwCl [(cB, .long), (cC, .long)] (va_A (Wm g0 g1 g2 cB cC u) sz) (Wm g0 g1 g2 cB cC)) (va_A (Wm g0 g1 g2 cB cC u) sz)) 0 0 (va_A (Wm g0 g1 g2 cB cC u) sz) := by
  refine Met.ofW (cc := cX4_intImmediate) (maxL := 5) (ret := (some .int)) (by decide) rfl ?_
  intro p e s m args below meth c s₁ B hml hv
  obtain ⟨rfl, hsz, hP, hK, hD0⟩ := hv
  have hx := B.exec
  have hb := B.bytes
  have hr := B.returns
  have hts0 := atoms_spec (ws := wsX4_intImmediate) B.pre
  have hts := fun (w : Cond) (h : w ∈ lw_G) => hts0 w (List.mem_cons_of_mem _ h)
  have hown : s.vm.findClass RX4 = some m.cls := findClass_of_methodNamed B.named
  have hlocks := B.notSynchronized
  subst hsz
  have hD := hD0.self (sz := s.heap.size)
  generalize hAe : va_A (Wm g0 g1 g2 cB cC u) s.heap.size = A at hD ⊢
  have hA : ∀ q : Nat, s.heap.size ≤ q → A q := fun q h => by rw [← hAe]; exact Or.inr h
  have hS : va_S A s.heap s.heap [] := va_S.rf
  have hl := lv_entry ([.ref g0, .int p0, .int p1, .int p2]) (n := 5) (Nat.le_of_ble_eq_true rfl)
  rw [lg_entry_eq]
  generalize (lg_sl ([.ref g0, .int p0, .int p1, .int p2]) ++ List.replicate (5 - (lg_sl ([.ref g0, .int p0, .int p1, .int p2])).length) Slot.unset).toArray = ls at hl ⊢
  have hl : lv_has ls 5 [(0, .ref g0), (1, .int p0), (2, .int p1), (3, .int p2)] := hl
  refine lv_aload_n hx hb dX4_intImmediate_0 rfl (lv_at hl 0 rfl) ?_
  refine lv_bipush (v := (24 : Int32)) hx hb dX4_intImmediate_1 (by decide) ?_
  refine lv_bipush (v := (20 : Int32)) hx hb dX4_intImmediate_3 (by decide) ?_
  refine W.callV (W.runV (As := [.int (24 : Int32), .int (20 : Int32)]) (rest := []) ⟨hx, hb, hml, hown, hts⟩ (mt_X4_bits l dC dI g0 g1 g2 cB cC u (24 : Int32) (20 : Int32) 20 5 (by decide) (by decide) (by decide) (by decide) (by decide)) (cwV 2 hts gX4_47_X4_bits rfl rfl rfl (by decide +kernel) ⟨Nat.le_of_ble_eq_true rfl, Nat.le_of_ble_eq_true rfl⟩) (rd_V hK hP (ci := 1) (q0 := 0) rfl rfl rfl) rfl rfl hl.1 rfl (lv_room (Nat.le_of_ble_eq_true rfl)) dX4_intImmediate_5 ⟨Nat.le_of_ble_eq_true rfl, Nat.le_of_ble_eq_true rfl⟩) ?_
  refine W.eq (g2 := F0 m 8 ls [.int (f_X4_bits u (24 : Int32) (20 : Int32))]) rfl ?_
  refine lv_istore (lv' := [(4, .int (f_X4_bits u (24 : Int32) (20 : Int32))), (0, .ref g0), (1, .int p0), (2, .int p1), (3, .int p2)]) hx hb dX4_intImmediate_8 hl (by decide) rfl (fun ls hl => ?_)
  refine lv_iload_n hx hb dX4_intImmediate_10 rfl (lv_at hl 3 rfl) ?_
  refine lv_if_ne (tgt := 31) hx hb dX4_intImmediate_11 (by decide) (fun c1 => ?_) (fun c1 => ?_)
  · refine lv_iload_n hx hb dX4_intImmediate_31 rfl (lv_at hl 3 rfl) ?_
    refine lv_iconst (v := (1 : Int32)) hx hb dX4_intImmediate_32 (by decide) ?_
    refine lv_icmp_ne (tgt := 55) hx hb dX4_intImmediate_33 (by decide) (fun c2 => ?_) (fun c2 => ?_)
    · refine lv_iload_n hx hb dX4_intImmediate_55 rfl (lv_at hl 3 rfl) ?_
      refine lv_iconst (v := (5 : Int32)) hx hb dX4_intImmediate_56 (by decide) ?_
      refine lv_icmp_ne (tgt := 70) hx hb dX4_intImmediate_57 (by decide) (fun c3 => ?_) (fun c3 => ?_)
      · refine lv_iconst (v := (-1 : Int32)) hx hb dX4_intImmediate_70 (by decide) ?_
        have hF : f_X4_intImmediate u p0 p1 p2 = ((-1 : Int32), u) := by unfold f_X4_intImmediate; rw [if_neg c1, if_neg c2, if_neg c3]
        exact W.iret (v := (-1 : Int32)) hx hb hr (fun t ht hW => ⟨⟨(-1 : Int32), u, rfl, ⟨(congrArg Prod.fst hF).symm, (congrArg Prod.snd hF).symm⟩, by rw [ht]; exact hP, va_K.moved hW.alike hK, hD⟩, hS.F ht⟩) hS.2.2 dX4_intImmediate_71
      · refine lv_iload_n hx hb dX4_intImmediate_60 rfl (lv_at hl 4 rfl) ?_
        refine lv_if_eq (tgt := 72) hx hb dX4_intImmediate_61 (by decide) (fun c4 => ?_) (fun c4 => ?_)
        · refine lv_aload_n hx hb dX4_intImmediate_72 rfl (lv_at hl 1 rfl) ?_
          refine lv_iload_n hx hb dX4_intImmediate_73 rfl (lv_at hl 2 rfl) ?_
          refine lv_iload_n hx hb dX4_intImmediate_74 rfl (lv_at hl 4 rfl) ?_
          refine lv_if_ne (tgt := 90) hx hb dX4_intImmediate_75 (by decide) (fun c_ => absurd c4 c_) (fun _ => ?_)
          refine lv_aload_n hx hb dX4_intImmediate_78 rfl (lv_at hl 1 rfl) ?_
          refine va_get (D := (dC, dI)) (ci := 1) (v := .long u.2.2.2.2.2.2.1) (C := RX4) (T := TX4) (N := 13) hx hb hts inX4 hown hK hP 0 rfl rfl 6 (by decide) (hts _ qw_287) (fun _ h9 => h9) rfl dX4_intImmediate_79 ?_
          refine lv_l2i (v := u.2.2.2.2.2.2.1.toInt32) hx hb dX4_intImmediate_82 rfl ?_
          refine lv_iload hx hb dX4_intImmediate_83 (lv_at hl 0 rfl) ?_
          refine lv_iushr (v := (j_iushr u.2.2.2.2.2.2.1.toInt32 (f_X4_bits u (24 : Int32) (20 : Int32)))) hx hb dX4_intImmediate_85 rfl ?_
          refine lv_i2l (v := (j_iushr u.2.2.2.2.2.2.1.toInt32 (f_X4_bits u (24 : Int32) (20 : Int32))).toInt64) hx hb dX4_intImmediate_86 rfl ?_
          refine lv_goto (tgt := 99) hx hb dX4_intImmediate_87 (by decide) ?_
          refine wr_calli (wr := []) (va_runV (As := [.int p0, .long (j_iushr u.2.2.2.2.2.2.1.toInt32 (f_X4_bits u (24 : Int32) (20 : Int32))).toInt64]) (rest := []) ⟨hx, hb, hml, hown, hts⟩ (mt_X4_done_ l dC dI g0 g1 g2 cB cC s.heap.size u p0 (j_iushr u.2.2.2.2.2.2.1.toInt32 (f_X4_bits u (24 : Int32) (20 : Int32))).toInt64 hd) (cwV 2 hts gX4_106_X4_done_ rfl rfl rfl (by decide +kernel) ⟨Nat.le_of_ble_eq_true rfl, Nat.le_of_ble_eq_true rfl⟩) (wr_V hK hP hD (ci := 1) (q0 := 0) rfl rfl rfl) rfl rfl hl.1 rfl (lv_room (Nat.le_of_ble_eq_true rfl)) dX4_intImmediate_99 ⟨Nat.le_of_ble_eq_true rfl, Nat.le_of_ble_eq_true rfl⟩) hS hP hD hA [0, 1, 2] [] rfl rfl (by decide) (by decide) (fun r_ v_ H locs hw hP hD hS => ?_)
          obtain ⟨rfl, rfl⟩ := hw
          refine W.eq (g2 := F0 m 102 ls [.int (f_X4_done_ u p0 (j_iushr u.2.2.2.2.2.2.1.toInt32 (f_X4_bits u (24 : Int32) (20 : Int32))).toInt64).1]) rfl ?_
          have hP : va_P (dC, dI) vwCl (Wm g0 g1 g2 cB cC (f_X4_done_ u p0 (j_iushr u.2.2.2.2.2.2.1.toInt32 (f_X4_bits u (24 : Int32) (20 : Int32))).toInt64).2) H := hP
          have hD : va_D A (Wm g0 g1 g2 cB cC (f_X4_done_ u p0 (j_iushr u.2.2.2.2.2.2.1.toInt32 (f_X4_bits u (24 : Int32) (20 : Int32))).toInt64).2) := hD
          have hF : f_X4_intImmediate u p0 p1 p2 = ((f_X4_done_ u p0 (j_iushr u.2.2.2.2.2.2.1.toInt32 (f_X4_bits u (24 : Int32) (20 : Int32))).toInt64).1, (f_X4_done_ u p0 (j_iushr u.2.2.2.2.2.2.1.toInt32 (f_X4_bits u (24 : Int32) (20 : Int32))).toInt64).2) := by unfold f_X4_intImmediate; rw [if_neg c1, if_neg c2, if_pos c3, if_pos c4]
          exact W.iret (v := (f_X4_done_ u p0 (j_iushr u.2.2.2.2.2.2.1.toInt32 (f_X4_bits u (24 : Int32) (20 : Int32))).toInt64).1) hx hb hr (fun t ht hW => ⟨⟨(f_X4_done_ u p0 (j_iushr u.2.2.2.2.2.2.1.toInt32 (f_X4_bits u (24 : Int32) (20 : Int32))).toInt64).1, (f_X4_done_ u p0 (j_iushr u.2.2.2.2.2.2.1.toInt32 (f_X4_bits u (24 : Int32) (20 : Int32))).toInt64).2, rfl, ⟨(congrArg Prod.fst hF).symm, (congrArg Prod.snd hF).symm⟩, by rw [ht]; exact hP, va_K.moved hW.alike hK, hD⟩, hS.F ht⟩) hS.2.2 dX4_intImmediate_102
        · refine lv_iload_n hx hb dX4_intImmediate_64 rfl (lv_at hl 4 rfl) ?_
          refine lv_bipush (v := (32 : Int32)) hx hb dX4_intImmediate_65 (by decide) ?_
          refine lv_icmp_eq (tgt := 72) hx hb dX4_intImmediate_67 (by decide) (fun c5 => ?_) (fun c5 => ?_)
          · refine lv_aload_n hx hb dX4_intImmediate_72 rfl (lv_at hl 1 rfl) ?_
            refine lv_iload_n hx hb dX4_intImmediate_73 rfl (lv_at hl 2 rfl) ?_
            refine lv_iload_n hx hb dX4_intImmediate_74 rfl (lv_at hl 4 rfl) ?_
            refine lv_if_ne (tgt := 90) hx hb dX4_intImmediate_75 (by decide) (fun _ => ?_) (fun c_ => absurd c_ c4)
            refine lv_aload_n hx hb dX4_intImmediate_90 rfl (lv_at hl 1 rfl) ?_
            refine va_get (D := (dC, dI)) (ci := 1) (v := .long u.2.2.2.2.2.2.1) (C := RX4) (T := TX4) (N := 13) hx hb hts inX4 hown hK hP 0 rfl rfl 6 (by decide) (hts _ qw_287) (fun _ h9 => h9) rfl dX4_intImmediate_91 ?_
            refine lv_l2i (v := u.2.2.2.2.2.2.1.toInt32) hx hb dX4_intImmediate_94 rfl ?_
            refine lv_iload hx hb dX4_intImmediate_95 (lv_at hl 0 rfl) ?_
            refine lv_ishr hx hb dX4_intImmediate_97 ?_
            refine lv_i2l (v := (u.2.2.2.2.2.2.1.toInt32 >>> ((f_X4_bits u (24 : Int32) (20 : Int32)) &&& 31)).toInt64) hx hb dX4_intImmediate_98 rfl ?_
            refine wr_calli (wr := []) (va_runV (As := [.int p0, .long (u.2.2.2.2.2.2.1.toInt32 >>> ((f_X4_bits u (24 : Int32) (20 : Int32)) &&& 31)).toInt64]) (rest := []) ⟨hx, hb, hml, hown, hts⟩ (mt_X4_done_ l dC dI g0 g1 g2 cB cC s.heap.size u p0 (u.2.2.2.2.2.2.1.toInt32 >>> ((f_X4_bits u (24 : Int32) (20 : Int32)) &&& 31)).toInt64 hd) (cwV 2 hts gX4_106_X4_done_ rfl rfl rfl (by decide +kernel) ⟨Nat.le_of_ble_eq_true rfl, Nat.le_of_ble_eq_true rfl⟩) (wr_V hK hP hD (ci := 1) (q0 := 0) rfl rfl rfl) rfl rfl hl.1 rfl (lv_room (Nat.le_of_ble_eq_true rfl)) dX4_intImmediate_99 ⟨Nat.le_of_ble_eq_true rfl, Nat.le_of_ble_eq_true rfl⟩) hS hP hD hA [0, 1, 2] [] rfl rfl (by decide) (by decide) (fun r_ v_ H locs hw hP hD hS => ?_)
            obtain ⟨rfl, rfl⟩ := hw
            refine W.eq (g2 := F0 m 102 ls [.int (f_X4_done_ u p0 (u.2.2.2.2.2.2.1.toInt32 >>> ((f_X4_bits u (24 : Int32) (20 : Int32)) &&& 31)).toInt64).1]) rfl ?_
            have hP : va_P (dC, dI) vwCl (Wm g0 g1 g2 cB cC (f_X4_done_ u p0 (u.2.2.2.2.2.2.1.toInt32 >>> ((f_X4_bits u (24 : Int32) (20 : Int32)) &&& 31)).toInt64).2) H := hP
            have hD : va_D A (Wm g0 g1 g2 cB cC (f_X4_done_ u p0 (u.2.2.2.2.2.2.1.toInt32 >>> ((f_X4_bits u (24 : Int32) (20 : Int32)) &&& 31)).toInt64).2) := hD
            have hF : f_X4_intImmediate u p0 p1 p2 = ((f_X4_done_ u p0 (u.2.2.2.2.2.2.1.toInt32 >>> ((f_X4_bits u (24 : Int32) (20 : Int32)) &&& 31)).toInt64).1, (f_X4_done_ u p0 (u.2.2.2.2.2.2.1.toInt32 >>> ((f_X4_bits u (24 : Int32) (20 : Int32)) &&& 31)).toInt64).2) := by unfold f_X4_intImmediate; rw [if_neg c1, if_neg c2, if_pos c3, if_neg c4, if_pos c5]
            exact W.iret (v := (f_X4_done_ u p0 (u.2.2.2.2.2.2.1.toInt32 >>> ((f_X4_bits u (24 : Int32) (20 : Int32)) &&& 31)).toInt64).1) hx hb hr (fun t ht hW => ⟨⟨(f_X4_done_ u p0 (u.2.2.2.2.2.2.1.toInt32 >>> ((f_X4_bits u (24 : Int32) (20 : Int32)) &&& 31)).toInt64).1, (f_X4_done_ u p0 (u.2.2.2.2.2.2.1.toInt32 >>> ((f_X4_bits u (24 : Int32) (20 : Int32)) &&& 31)).toInt64).2, rfl, ⟨(congrArg Prod.fst hF).symm, (congrArg Prod.snd hF).symm⟩, by rw [ht]; exact hP, va_K.moved hW.alike hK, hD⟩, hS.F ht⟩) hS.2.2 dX4_intImmediate_102
          · refine lv_iconst (v := (-1 : Int32)) hx hb dX4_intImmediate_70 (by decide) ?_
            have hF : f_X4_intImmediate u p0 p1 p2 = ((-1 : Int32), u) := by unfold f_X4_intImmediate; rw [if_neg c1, if_neg c2, if_pos c3, if_neg c4, if_neg c5]
            exact W.iret (v := (-1 : Int32)) hx hb hr (fun t ht hW => ⟨⟨(-1 : Int32), u, rfl, ⟨(congrArg Prod.fst hF).symm, (congrArg Prod.snd hF).symm⟩, by rw [ht]; exact hP, va_K.moved hW.alike hK, hD⟩, hS.F ht⟩) hS.2.2 dX4_intImmediate_71
    · refine lv_iload_n hx hb dX4_intImmediate_36 rfl (lv_at hl 4 rfl) ?_
      refine lv_if_ne (tgt := 55) hx hb dX4_intImmediate_37 (by decide) (fun c6 => ?_) (fun c6 => ?_)
      · refine lv_iload_n hx hb dX4_intImmediate_55 rfl (lv_at hl 3 rfl) ?_
        refine lv_iconst (v := (5 : Int32)) hx hb dX4_intImmediate_56 (by decide) ?_
        refine lv_icmp_ne (tgt := 70) hx hb dX4_intImmediate_57 (by decide) (fun c7 => ?_) (fun c7 => ?_)
        · refine lv_iconst (v := (-1 : Int32)) hx hb dX4_intImmediate_70 (by decide) ?_
          have hF : f_X4_intImmediate u p0 p1 p2 = ((-1 : Int32), u) := by unfold f_X4_intImmediate; rw [if_neg c1, if_pos c2, if_neg c6, if_neg c7]
          exact W.iret (v := (-1 : Int32)) hx hb hr (fun t ht hW => ⟨⟨(-1 : Int32), u, rfl, ⟨(congrArg Prod.fst hF).symm, (congrArg Prod.snd hF).symm⟩, by rw [ht]; exact hP, va_K.moved hW.alike hK, hD⟩, hS.F ht⟩) hS.2.2 dX4_intImmediate_71
        · refine lv_iload_n hx hb dX4_intImmediate_60 rfl (lv_at hl 4 rfl) ?_
          refine lv_if_eq (tgt := 72) hx hb dX4_intImmediate_61 (by decide) (fun c_ => absurd c_ c6) (fun _ => ?_)
          refine lv_iload_n hx hb dX4_intImmediate_64 rfl (lv_at hl 4 rfl) ?_
          refine lv_bipush (v := (32 : Int32)) hx hb dX4_intImmediate_65 (by decide) ?_
          refine lv_icmp_eq (tgt := 72) hx hb dX4_intImmediate_67 (by decide) (fun c8 => ?_) (fun c8 => ?_)
          · refine lv_aload_n hx hb dX4_intImmediate_72 rfl (lv_at hl 1 rfl) ?_
            refine lv_iload_n hx hb dX4_intImmediate_73 rfl (lv_at hl 2 rfl) ?_
            refine lv_iload_n hx hb dX4_intImmediate_74 rfl (lv_at hl 4 rfl) ?_
            refine lv_if_ne (tgt := 90) hx hb dX4_intImmediate_75 (by decide) (fun _ => ?_) (fun c_ => absurd c_ c6)
            refine lv_aload_n hx hb dX4_intImmediate_90 rfl (lv_at hl 1 rfl) ?_
            refine va_get (D := (dC, dI)) (ci := 1) (v := .long u.2.2.2.2.2.2.1) (C := RX4) (T := TX4) (N := 13) hx hb hts inX4 hown hK hP 0 rfl rfl 6 (by decide) (hts _ qw_287) (fun _ h9 => h9) rfl dX4_intImmediate_91 ?_
            refine lv_l2i (v := u.2.2.2.2.2.2.1.toInt32) hx hb dX4_intImmediate_94 rfl ?_
            refine lv_iload hx hb dX4_intImmediate_95 (lv_at hl 0 rfl) ?_
            refine lv_ishr hx hb dX4_intImmediate_97 ?_
            refine lv_i2l (v := (u.2.2.2.2.2.2.1.toInt32 >>> ((f_X4_bits u (24 : Int32) (20 : Int32)) &&& 31)).toInt64) hx hb dX4_intImmediate_98 rfl ?_
            refine wr_calli (wr := []) (va_runV (As := [.int p0, .long (u.2.2.2.2.2.2.1.toInt32 >>> ((f_X4_bits u (24 : Int32) (20 : Int32)) &&& 31)).toInt64]) (rest := []) ⟨hx, hb, hml, hown, hts⟩ (mt_X4_done_ l dC dI g0 g1 g2 cB cC s.heap.size u p0 (u.2.2.2.2.2.2.1.toInt32 >>> ((f_X4_bits u (24 : Int32) (20 : Int32)) &&& 31)).toInt64 hd) (cwV 2 hts gX4_106_X4_done_ rfl rfl rfl (by decide +kernel) ⟨Nat.le_of_ble_eq_true rfl, Nat.le_of_ble_eq_true rfl⟩) (wr_V hK hP hD (ci := 1) (q0 := 0) rfl rfl rfl) rfl rfl hl.1 rfl (lv_room (Nat.le_of_ble_eq_true rfl)) dX4_intImmediate_99 ⟨Nat.le_of_ble_eq_true rfl, Nat.le_of_ble_eq_true rfl⟩) hS hP hD hA [0, 1, 2] [] rfl rfl (by decide) (by decide) (fun r_ v_ H locs hw hP hD hS => ?_)
            obtain ⟨rfl, rfl⟩ := hw
            refine W.eq (g2 := F0 m 102 ls [.int (f_X4_done_ u p0 (u.2.2.2.2.2.2.1.toInt32 >>> ((f_X4_bits u (24 : Int32) (20 : Int32)) &&& 31)).toInt64).1]) rfl ?_
            have hP : va_P (dC, dI) vwCl (Wm g0 g1 g2 cB cC (f_X4_done_ u p0 (u.2.2.2.2.2.2.1.toInt32 >>> ((f_X4_bits u (24 : Int32) (20 : Int32)) &&& 31)).toInt64).2) H := hP
            have hD : va_D A (Wm g0 g1 g2 cB cC (f_X4_done_ u p0 (u.2.2.2.2.2.2.1.toInt32 >>> ((f_X4_bits u (24 : Int32) (20 : Int32)) &&& 31)).toInt64).2) := hD
            have hF : f_X4_intImmediate u p0 p1 p2 = ((f_X4_done_ u p0 (u.2.2.2.2.2.2.1.toInt32 >>> ((f_X4_bits u (24 : Int32) (20 : Int32)) &&& 31)).toInt64).1, (f_X4_done_ u p0 (u.2.2.2.2.2.2.1.toInt32 >>> ((f_X4_bits u (24 : Int32) (20 : Int32)) &&& 31)).toInt64).2) := by unfold f_X4_intImmediate; rw [if_neg c1, if_pos c2, if_neg c6, if_pos c7, if_pos c8]
            exact W.iret (v := (f_X4_done_ u p0 (u.2.2.2.2.2.2.1.toInt32 >>> ((f_X4_bits u (24 : Int32) (20 : Int32)) &&& 31)).toInt64).1) hx hb hr (fun t ht hW => ⟨⟨(f_X4_done_ u p0 (u.2.2.2.2.2.2.1.toInt32 >>> ((f_X4_bits u (24 : Int32) (20 : Int32)) &&& 31)).toInt64).1, (f_X4_done_ u p0 (u.2.2.2.2.2.2.1.toInt32 >>> ((f_X4_bits u (24 : Int32) (20 : Int32)) &&& 31)).toInt64).2, rfl, ⟨(congrArg Prod.fst hF).symm, (congrArg Prod.snd hF).symm⟩, by rw [ht]; exact hP, va_K.moved hW.alike hK, hD⟩, hS.F ht⟩) hS.2.2 dX4_intImmediate_102
          · refine lv_iconst (v := (-1 : Int32)) hx hb dX4_intImmediate_70 (by decide) ?_
            have hF : f_X4_intImmediate u p0 p1 p2 = ((-1 : Int32), u) := by unfold f_X4_intImmediate; rw [if_neg c1, if_pos c2, if_neg c6, if_pos c7, if_neg c8]
            exact W.iret (v := (-1 : Int32)) hx hb hr (fun t ht hW => ⟨⟨(-1 : Int32), u, rfl, ⟨(congrArg Prod.fst hF).symm, (congrArg Prod.snd hF).symm⟩, by rw [ht]; exact hP, va_K.moved hW.alike hK, hD⟩, hS.F ht⟩) hS.2.2 dX4_intImmediate_71
      · refine lv_aload_n hx hb dX4_intImmediate_40 rfl (lv_at hl 1 rfl) ?_
        refine lv_iload_n hx hb dX4_intImmediate_41 rfl (lv_at hl 2 rfl) ?_
        refine lv_aload_n hx hb dX4_intImmediate_42 rfl (lv_at hl 1 rfl) ?_
        refine va_get (D := (dC, dI)) (ci := 1) (v := .long u.2.2.2.2.2.2.1) (C := RX4) (T := TX4) (N := 13) hx hb hts inX4 hown hK hP 0 rfl rfl 6 (by decide) (hts _ qw_287) (fun _ h9 => h9) rfl dX4_intImmediate_43 ?_
        refine lv_iload hx hb dX4_intImmediate_46 (lv_at hl 0 rfl) ?_
        refine lv_lshl (v := (j_lshl u.2.2.2.2.2.2.1 (f_X4_bits u (24 : Int32) (20 : Int32)))) hx hb dX4_intImmediate_48 rfl ?_
        refine lv_l2i (v := (j_lshl u.2.2.2.2.2.2.1 (f_X4_bits u (24 : Int32) (20 : Int32))).toInt32) hx hb dX4_intImmediate_49 rfl ?_
        refine lv_i2l (v := (j_lshl u.2.2.2.2.2.2.1 (f_X4_bits u (24 : Int32) (20 : Int32))).toInt32.toInt64) hx hb dX4_intImmediate_50 rfl ?_
        refine wr_calli (wr := []) (va_runV (As := [.int p0, .long (j_lshl u.2.2.2.2.2.2.1 (f_X4_bits u (24 : Int32) (20 : Int32))).toInt32.toInt64]) (rest := []) ⟨hx, hb, hml, hown, hts⟩ (mt_X4_done_ l dC dI g0 g1 g2 cB cC s.heap.size u p0 (j_lshl u.2.2.2.2.2.2.1 (f_X4_bits u (24 : Int32) (20 : Int32))).toInt32.toInt64 hd) (cwV 2 hts gX4_106_X4_done_ rfl rfl rfl (by decide +kernel) ⟨Nat.le_of_ble_eq_true rfl, Nat.le_of_ble_eq_true rfl⟩) (wr_V hK hP hD (ci := 1) (q0 := 0) rfl rfl rfl) rfl rfl hl.1 rfl (lv_room (Nat.le_of_ble_eq_true rfl)) dX4_intImmediate_51 ⟨Nat.le_of_ble_eq_true rfl, Nat.le_of_ble_eq_true rfl⟩) hS hP hD hA [0, 1, 2] [] rfl rfl (by decide) (by decide) (fun r_ v_ H locs hw hP hD hS => ?_)
        obtain ⟨rfl, rfl⟩ := hw
        refine W.eq (g2 := F0 m 54 ls [.int (f_X4_done_ u p0 (j_lshl u.2.2.2.2.2.2.1 (f_X4_bits u (24 : Int32) (20 : Int32))).toInt32.toInt64).1]) rfl ?_
        have hP : va_P (dC, dI) vwCl (Wm g0 g1 g2 cB cC (f_X4_done_ u p0 (j_lshl u.2.2.2.2.2.2.1 (f_X4_bits u (24 : Int32) (20 : Int32))).toInt32.toInt64).2) H := hP
        have hD : va_D A (Wm g0 g1 g2 cB cC (f_X4_done_ u p0 (j_lshl u.2.2.2.2.2.2.1 (f_X4_bits u (24 : Int32) (20 : Int32))).toInt32.toInt64).2) := hD
        have hF : f_X4_intImmediate u p0 p1 p2 = ((f_X4_done_ u p0 (j_lshl u.2.2.2.2.2.2.1 (f_X4_bits u (24 : Int32) (20 : Int32))).toInt32.toInt64).1, (f_X4_done_ u p0 (j_lshl u.2.2.2.2.2.2.1 (f_X4_bits u (24 : Int32) (20 : Int32))).toInt32.toInt64).2) := by unfold f_X4_intImmediate; rw [if_neg c1, if_pos c2, if_pos c6]
        exact W.iret (v := (f_X4_done_ u p0 (j_lshl u.2.2.2.2.2.2.1 (f_X4_bits u (24 : Int32) (20 : Int32))).toInt32.toInt64).1) hx hb hr (fun t ht hW => ⟨⟨(f_X4_done_ u p0 (j_lshl u.2.2.2.2.2.2.1 (f_X4_bits u (24 : Int32) (20 : Int32))).toInt32.toInt64).1, (f_X4_done_ u p0 (j_lshl u.2.2.2.2.2.2.1 (f_X4_bits u (24 : Int32) (20 : Int32))).toInt32.toInt64).2, rfl, ⟨(congrArg Prod.fst hF).symm, (congrArg Prod.snd hF).symm⟩, by rw [ht]; exact hP, va_K.moved hW.alike hK, hD⟩, hS.F ht⟩) hS.2.2 dX4_intImmediate_54
  · refine lv_aload_n hx hb dX4_intImmediate_14 rfl (lv_at hl 1 rfl) ?_
    refine lv_iload_n hx hb dX4_intImmediate_15 rfl (lv_at hl 2 rfl) ?_
    refine lv_aload_n hx hb dX4_intImmediate_16 rfl (lv_at hl 1 rfl) ?_
    refine va_get (D := (dC, dI)) (ci := 1) (v := .long u.2.2.2.2.2.2.1) (C := RX4) (T := TX4) (N := 13) hx hb hts inX4 hown hK hP 0 rfl rfl 6 (by decide) (hts _ qw_287) (fun _ h9 => h9) rfl dX4_intImmediate_17 ?_
    refine lv_aload_n hx hb dX4_intImmediate_20 rfl (lv_at hl 1 rfl) ?_
    refine W.callV (W.runV (As := []) (rest := [.long u.2.2.2.2.2.2.1, .int p0, .ref g0]) ⟨hx, hb, hml, hown, hts⟩ (mt_X4_immediateI l dC dI g0 g1 g2 cB cC u ) (cwV 0 hts gX4_99_X4_immediateI rfl rfl rfl (by decide +kernel) ⟨Nat.le_of_ble_eq_true rfl, Nat.le_of_ble_eq_true rfl⟩) (rd_V hK hP (ci := 1) (q0 := 0) rfl rfl rfl) rfl rfl hl.1 rfl (lv_room (Nat.le_of_ble_eq_true rfl)) dX4_intImmediate_21 ⟨Nat.le_of_ble_eq_true rfl, Nat.le_of_ble_eq_true rfl⟩) ?_
    refine W.eq (g2 := F0 m 24 ls [.long (f_X4_immediateI u), .long u.2.2.2.2.2.2.1, .int p0, .ref g0]) rfl ?_
    refine lv_ladd hx hb dX4_intImmediate_24 ?_
    refine lv_l2i (v := (u.2.2.2.2.2.2.1 + (f_X4_immediateI u)).toInt32) hx hb dX4_intImmediate_25 rfl ?_
    refine lv_i2l (v := (u.2.2.2.2.2.2.1 + (f_X4_immediateI u)).toInt32.toInt64) hx hb dX4_intImmediate_26 rfl ?_
    refine wr_calli (wr := []) (va_runV (As := [.int p0, .long (u.2.2.2.2.2.2.1 + (f_X4_immediateI u)).toInt32.toInt64]) (rest := []) ⟨hx, hb, hml, hown, hts⟩ (mt_X4_done_ l dC dI g0 g1 g2 cB cC s.heap.size u p0 (u.2.2.2.2.2.2.1 + (f_X4_immediateI u)).toInt32.toInt64 hd) (cwV 2 hts gX4_106_X4_done_ rfl rfl rfl (by decide +kernel) ⟨Nat.le_of_ble_eq_true rfl, Nat.le_of_ble_eq_true rfl⟩) (wr_V hK hP hD (ci := 1) (q0 := 0) rfl rfl rfl) rfl rfl hl.1 rfl (lv_room (Nat.le_of_ble_eq_true rfl)) dX4_intImmediate_27 ⟨Nat.le_of_ble_eq_true rfl, Nat.le_of_ble_eq_true rfl⟩) hS hP hD hA [0, 1, 2] [] rfl rfl (by decide) (by decide) (fun r_ v_ H locs hw hP hD hS => ?_)
    obtain ⟨rfl, rfl⟩ := hw
    refine W.eq (g2 := F0 m 30 ls [.int (f_X4_done_ u p0 (u.2.2.2.2.2.2.1 + (f_X4_immediateI u)).toInt32.toInt64).1]) rfl ?_
    have hP : va_P (dC, dI) vwCl (Wm g0 g1 g2 cB cC (f_X4_done_ u p0 (u.2.2.2.2.2.2.1 + (f_X4_immediateI u)).toInt32.toInt64).2) H := hP
    have hD : va_D A (Wm g0 g1 g2 cB cC (f_X4_done_ u p0 (u.2.2.2.2.2.2.1 + (f_X4_immediateI u)).toInt32.toInt64).2) := hD
    have hF : f_X4_intImmediate u p0 p1 p2 = ((f_X4_done_ u p0 (u.2.2.2.2.2.2.1 + (f_X4_immediateI u)).toInt32.toInt64).1, (f_X4_done_ u p0 (u.2.2.2.2.2.2.1 + (f_X4_immediateI u)).toInt32.toInt64).2) := by unfold f_X4_intImmediate; rw [if_pos c1]
    exact W.iret (v := (f_X4_done_ u p0 (u.2.2.2.2.2.2.1 + (f_X4_immediateI u)).toInt32.toInt64).1) hx hb hr (fun t ht hW => ⟨⟨(f_X4_done_ u p0 (u.2.2.2.2.2.2.1 + (f_X4_immediateI u)).toInt32.toInt64).1, (f_X4_done_ u p0 (u.2.2.2.2.2.2.1 + (f_X4_immediateI u)).toInt32.toInt64).2, rfl, ⟨(congrArg Prod.fst hF).symm, (congrArg Prod.snd hF).symm⟩, by rw [ht]; exact hP, va_K.moved hW.alike hK, hD⟩, hS.F ht⟩) hS.2.2 dX4_intImmediate_30

noncomputable def f_X4_intProduct (u : SmT) (p0 : Int32) (p1 : Int32) : Int32 × SmT :=
  if p1 = 0 then
    ((f_X4_done_ u p0 (u.2.2.2.2.2.2.1 * u.2.2.2.2.2.2.2.1).toInt32.toInt64).1, (f_X4_done_ u p0 (u.2.2.2.2.2.2.1 * u.2.2.2.2.2.2.2.1).toInt32.toInt64).2)
  else if (4 : Int32) ≤ p1 then
    if p1 = (4 : Int32) then
      if (6 : Int32) ≤ p1 then
        ((f_X4_done_ (f_X4_divideAll u u.2.2.2.2.2.2.1.toInt32.toInt64 u.2.2.2.2.2.2.2.1.toInt32.toInt64 (1 : Int32)) p0 (f_X4_divideAll u u.2.2.2.2.2.2.1.toInt32.toInt64 u.2.2.2.2.2.2.2.1.toInt32.toInt64 (1 : Int32)).2.2.2.2.2.2.2.2.2.2.2.2.toInt32.toInt64).1, (f_X4_done_ (f_X4_divideAll u u.2.2.2.2.2.2.1.toInt32.toInt64 u.2.2.2.2.2.2.2.1.toInt32.toInt64 (1 : Int32)) p0 (f_X4_divideAll u u.2.2.2.2.2.2.1.toInt32.toInt64 u.2.2.2.2.2.2.2.1.toInt32.toInt64 (1 : Int32)).2.2.2.2.2.2.2.2.2.2.2.2.toInt32.toInt64).2)
      else
        ((f_X4_done_ (f_X4_divideAll u u.2.2.2.2.2.2.1.toInt32.toInt64 u.2.2.2.2.2.2.2.1.toInt32.toInt64 (1 : Int32)) p0 (f_X4_divideAll u u.2.2.2.2.2.2.1.toInt32.toInt64 u.2.2.2.2.2.2.2.1.toInt32.toInt64 (1 : Int32)).2.2.2.2.2.2.2.2.2.2.2.1.toInt32.toInt64).1, (f_X4_done_ (f_X4_divideAll u u.2.2.2.2.2.2.1.toInt32.toInt64 u.2.2.2.2.2.2.2.1.toInt32.toInt64 (1 : Int32)) p0 (f_X4_divideAll u u.2.2.2.2.2.2.1.toInt32.toInt64 u.2.2.2.2.2.2.2.1.toInt32.toInt64 (1 : Int32)).2.2.2.2.2.2.2.2.2.2.2.1.toInt32.toInt64).2)
    else if p1 = (6 : Int32) then
      if (6 : Int32) ≤ p1 then
        ((f_X4_done_ (f_X4_divideAll u u.2.2.2.2.2.2.1.toInt32.toInt64 u.2.2.2.2.2.2.2.1.toInt32.toInt64 (1 : Int32)) p0 (f_X4_divideAll u u.2.2.2.2.2.2.1.toInt32.toInt64 u.2.2.2.2.2.2.2.1.toInt32.toInt64 (1 : Int32)).2.2.2.2.2.2.2.2.2.2.2.2.toInt32.toInt64).1, (f_X4_done_ (f_X4_divideAll u u.2.2.2.2.2.2.1.toInt32.toInt64 u.2.2.2.2.2.2.2.1.toInt32.toInt64 (1 : Int32)) p0 (f_X4_divideAll u u.2.2.2.2.2.2.1.toInt32.toInt64 u.2.2.2.2.2.2.2.1.toInt32.toInt64 (1 : Int32)).2.2.2.2.2.2.2.2.2.2.2.2.toInt32.toInt64).2)
      else
        ((f_X4_done_ (f_X4_divideAll u u.2.2.2.2.2.2.1.toInt32.toInt64 u.2.2.2.2.2.2.2.1.toInt32.toInt64 (1 : Int32)) p0 (f_X4_divideAll u u.2.2.2.2.2.2.1.toInt32.toInt64 u.2.2.2.2.2.2.2.1.toInt32.toInt64 (1 : Int32)).2.2.2.2.2.2.2.2.2.2.2.1.toInt32.toInt64).1, (f_X4_done_ (f_X4_divideAll u u.2.2.2.2.2.2.1.toInt32.toInt64 u.2.2.2.2.2.2.2.1.toInt32.toInt64 (1 : Int32)) p0 (f_X4_divideAll u u.2.2.2.2.2.2.1.toInt32.toInt64 u.2.2.2.2.2.2.2.1.toInt32.toInt64 (1 : Int32)).2.2.2.2.2.2.2.2.2.2.2.1.toInt32.toInt64).2)
    else if (6 : Int32) ≤ p1 then
      ((f_X4_done_ (f_X4_divideAll u (u.2.2.2.2.2.2.1 &&& (4294967295 : Int64)) (u.2.2.2.2.2.2.2.1 &&& (4294967295 : Int64)) (0 : Int32)) p0 (f_X4_divideAll u (u.2.2.2.2.2.2.1 &&& (4294967295 : Int64)) (u.2.2.2.2.2.2.2.1 &&& (4294967295 : Int64)) (0 : Int32)).2.2.2.2.2.2.2.2.2.2.2.2.toInt32.toInt64).1, (f_X4_done_ (f_X4_divideAll u (u.2.2.2.2.2.2.1 &&& (4294967295 : Int64)) (u.2.2.2.2.2.2.2.1 &&& (4294967295 : Int64)) (0 : Int32)) p0 (f_X4_divideAll u (u.2.2.2.2.2.2.1 &&& (4294967295 : Int64)) (u.2.2.2.2.2.2.2.1 &&& (4294967295 : Int64)) (0 : Int32)).2.2.2.2.2.2.2.2.2.2.2.2.toInt32.toInt64).2)
    else
      ((f_X4_done_ (f_X4_divideAll u (u.2.2.2.2.2.2.1 &&& (4294967295 : Int64)) (u.2.2.2.2.2.2.2.1 &&& (4294967295 : Int64)) (0 : Int32)) p0 (f_X4_divideAll u (u.2.2.2.2.2.2.1 &&& (4294967295 : Int64)) (u.2.2.2.2.2.2.2.1 &&& (4294967295 : Int64)) (0 : Int32)).2.2.2.2.2.2.2.2.2.2.2.1.toInt32.toInt64).1, (f_X4_done_ (f_X4_divideAll u (u.2.2.2.2.2.2.1 &&& (4294967295 : Int64)) (u.2.2.2.2.2.2.2.1 &&& (4294967295 : Int64)) (0 : Int32)) p0 (f_X4_divideAll u (u.2.2.2.2.2.2.1 &&& (4294967295 : Int64)) (u.2.2.2.2.2.2.2.1 &&& (4294967295 : Int64)) (0 : Int32)).2.2.2.2.2.2.2.2.2.2.2.1.toInt32.toInt64).2)
  else
    ((-1 : Int32), u)
set_option maxHeartbeats 4000000 in
set_option maxRecDepth 100000 in
theorem mt_X4_intProduct (l : Launch) (dC : Nat → ClassId) (dI : Nat → Nat → Nat) (g0 g1 g2 : Nat) (cB cC : ClassId) (sz : Nat) (u : SmT) (p0 : Int32) (p1 : Int32) (hd : p0 ≤ (31 : Int32)) : Met l yX4_intProduct wsX4_intProduct ({ frames := 3, cells := 0, slots := 0, locals := 76 }) (wr_P [.ref g0, .int p0, .int p1] (dC, dI) vwCl (Wm g0 g1 g2 cB cC u) [(cB, .long), (cC, .long)] sz) (va_Qi (fun r v => r = (f_X4_intProduct u p0 p1).1 ∧ v = (f_X4_intProduct u p0 p1).2) (wr_B (dC, dI) vwCl [(cB, .long), (cC, .long)] (va_A (Wm g0 g1 g2 cB cC u) sz) (Wm g0 g1 g2 cB cC)) (va_A (Wm g0 g1 g2 cB cC u) sz)) 0 0 (va_A (Wm g0 g1 g2 cB cC u) sz) := by
  refine Met.ofW (cc := cX4_intProduct) (maxL := 4) (ret := (some .int)) (by decide) rfl ?_
  intro p e s m args below meth c s₁ B hml hv
  obtain ⟨rfl, hsz, hP, hK, hD0⟩ := hv
  have hx := B.exec
  have hb := B.bytes
  have hr := B.returns
  have hts0 := atoms_spec (ws := wsX4_intProduct) B.pre
  have hts := fun (w : Cond) (h : w ∈ lw_G) => hts0 w (List.mem_cons_of_mem _ h)
  have hown : s.vm.findClass RX4 = some m.cls := findClass_of_methodNamed B.named
  have hlocks := B.notSynchronized
  subst hsz
  have hD := hD0.self (sz := s.heap.size)
  generalize hAe : va_A (Wm g0 g1 g2 cB cC u) s.heap.size = A at hD ⊢
  have hA : ∀ q : Nat, s.heap.size ≤ q → A q := fun q h => by rw [← hAe]; exact Or.inr h
  have hS : va_S A s.heap s.heap [] := va_S.rf
  have hl := lv_entry ([.ref g0, .int p0, .int p1]) (n := 4) (Nat.le_of_ble_eq_true rfl)
  rw [lg_entry_eq]
  generalize (lg_sl ([.ref g0, .int p0, .int p1]) ++ List.replicate (4 - (lg_sl ([.ref g0, .int p0, .int p1])).length) Slot.unset).toArray = ls at hl ⊢
  have hl : lv_has ls 4 [(0, .ref g0), (1, .int p0), (2, .int p1)] := hl
  refine lv_iload_n hx hb dX4_intProduct_0 rfl (lv_at hl 2 rfl) ?_
  refine lv_if_ne (tgt := 21) hx hb dX4_intProduct_1 (by decide) (fun c1 => ?_) (fun c1 => ?_)
  · refine lv_iload_n hx hb dX4_intProduct_21 rfl (lv_at hl 2 rfl) ?_
    refine lv_iconst (v := (4 : Int32)) hx hb dX4_intProduct_22 (by decide) ?_
    refine lv_icmp_ge (tgt := 28) hx hb dX4_intProduct_23 (by decide) (fun c2 => ?_) (fun c2 => ?_)
    · refine lv_iload_n hx hb dX4_intProduct_28 rfl (lv_at hl 2 rfl) ?_
      refine lv_iconst (v := (4 : Int32)) hx hb dX4_intProduct_29 (by decide) ?_
      refine lv_icmp_eq (tgt := 39) hx hb dX4_intProduct_30 (by decide) (fun c3 => ?_) (fun c3 => ?_)
      · refine lv_iconst (v := (1 : Int32)) hx hb dX4_intProduct_39 (by decide) ?_
        refine lv_goto (tgt := 44) hx hb dX4_intProduct_40 (by decide) ?_
        refine lv_istore_n (lv' := [(3, .int (1 : Int32)), (0, .ref g0), (1, .int p0), (2, .int p1)]) hx hb dX4_intProduct_44 rfl hl (by decide) rfl (fun ls hl => ?_)
        refine lv_aload_n hx hb dX4_intProduct_45 rfl (lv_at hl 1 rfl) ?_
        refine lv_iload_n hx hb dX4_intProduct_46 rfl (lv_at hl 0 rfl) ?_
        refine lv_if_eq (tgt := 59) hx hb dX4_intProduct_47 (by decide) (fun c_ => absurd c_ (by decide)) (fun _ => ?_)
        refine lv_aload_n hx hb dX4_intProduct_50 rfl (lv_at hl 1 rfl) ?_
        refine va_get (D := (dC, dI)) (ci := 1) (v := .long u.2.2.2.2.2.2.1) (C := RX4) (T := TX4) (N := 13) hx hb hts inX4 hown hK hP 0 rfl rfl 6 (by decide) (hts _ qw_287) (fun _ h9 => h9) rfl dX4_intProduct_51 ?_
        refine lv_l2i (v := u.2.2.2.2.2.2.1.toInt32) hx hb dX4_intProduct_54 rfl ?_
        refine lv_i2l (v := u.2.2.2.2.2.2.1.toInt32.toInt64) hx hb dX4_intProduct_55 rfl ?_
        refine lv_goto (tgt := 67) hx hb dX4_intProduct_56 (by decide) ?_
        refine lv_iload_n hx hb dX4_intProduct_67 rfl (lv_at hl 0 rfl) ?_
        refine lv_if_eq (tgt := 80) hx hb dX4_intProduct_68 (by decide) (fun c_ => absurd c_ (by decide)) (fun _ => ?_)
        refine lv_aload_n hx hb dX4_intProduct_71 rfl (lv_at hl 1 rfl) ?_
        refine va_get (D := (dC, dI)) (ci := 1) (v := .long u.2.2.2.2.2.2.2.1) (C := RX4) (T := TX4) (N := 13) hx hb hts inX4 hown hK hP 0 rfl rfl 7 (by decide) (hts _ qw_288) (fun _ h9 => h9) rfl dX4_intProduct_72 ?_
        refine lv_l2i (v := u.2.2.2.2.2.2.2.1.toInt32) hx hb dX4_intProduct_75 rfl ?_
        refine lv_i2l (v := u.2.2.2.2.2.2.2.1.toInt32.toInt64) hx hb dX4_intProduct_76 rfl ?_
        refine lv_goto (tgt := 88) hx hb dX4_intProduct_77 (by decide) ?_
        refine lv_iload_n hx hb dX4_intProduct_88 rfl (lv_at hl 0 rfl) ?_
        refine wr_callv (wr := []) (va_runV (As := [.long u.2.2.2.2.2.2.1.toInt32.toInt64, .long u.2.2.2.2.2.2.2.1.toInt32.toInt64, .int (1 : Int32)]) (rest := []) ⟨hx, hb, hml, hown, hts⟩ (mt_X4_divideAll l dC dI g0 g1 g2 cB cC s.heap.size u u.2.2.2.2.2.2.1.toInt32.toInt64 u.2.2.2.2.2.2.2.1.toInt32.toInt64 (1 : Int32)) (cwV 3 hts gX4_114_X4_divideAll rfl rfl rfl (by decide +kernel) ⟨Nat.le_of_ble_eq_true rfl, Nat.le_of_ble_eq_true rfl⟩) (wr_V hK hP hD (ci := 1) (q0 := 0) rfl rfl rfl) rfl rfl hl.1 rfl (lv_room (Nat.le_of_ble_eq_true rfl)) dX4_intProduct_89 ⟨Nat.le_of_ble_eq_true rfl, Nat.le_of_ble_eq_true rfl⟩) hS hP hD hA [0, 1, 2] [] rfl rfl (by decide) (by decide) (fun v_ H locs hw hP hD hS => ?_)
        subst hw
        refine W.eq (g2 := F0 m 92 ls []) rfl ?_
        have hP : va_P (dC, dI) vwCl (Wm g0 g1 g2 cB cC (f_X4_divideAll u u.2.2.2.2.2.2.1.toInt32.toInt64 u.2.2.2.2.2.2.2.1.toInt32.toInt64 (1 : Int32))) H := hP
        have hD : va_D A (Wm g0 g1 g2 cB cC (f_X4_divideAll u u.2.2.2.2.2.2.1.toInt32.toInt64 u.2.2.2.2.2.2.2.1.toInt32.toInt64 (1 : Int32))) := hD
        refine lv_aload_n hx hb dX4_intProduct_92 rfl (lv_at hl 1 rfl) ?_
        refine lv_iload_n hx hb dX4_intProduct_93 rfl (lv_at hl 2 rfl) ?_
        refine lv_iload_n hx hb dX4_intProduct_94 rfl (lv_at hl 3 rfl) ?_
        refine lv_bipush (v := (6 : Int32)) hx hb dX4_intProduct_95 (by decide) ?_
        refine lv_icmp_ge (tgt := 107) hx hb dX4_intProduct_97 (by decide) (fun c4 => ?_) (fun c4 => ?_)
        · refine lv_aload_n hx hb dX4_intProduct_107 rfl (lv_at hl 1 rfl) ?_
          refine va_get (D := (dC, dI)) (ci := 1) (v := .long (f_X4_divideAll u u.2.2.2.2.2.2.1.toInt32.toInt64 u.2.2.2.2.2.2.2.1.toInt32.toInt64 (1 : Int32)).2.2.2.2.2.2.2.2.2.2.2.2) (C := RX4) (T := TX4) (N := 13) hx hb hts inX4 hown hK hP 0 rfl rfl 12 (by decide) (hts _ qw_256) (fun _ h9 => h9) rfl dX4_intProduct_108 ?_
          refine lv_l2i (v := (f_X4_divideAll u u.2.2.2.2.2.2.1.toInt32.toInt64 u.2.2.2.2.2.2.2.1.toInt32.toInt64 (1 : Int32)).2.2.2.2.2.2.2.2.2.2.2.2.toInt32) hx hb dX4_intProduct_111 rfl ?_
          refine lv_i2l (v := (f_X4_divideAll u u.2.2.2.2.2.2.1.toInt32.toInt64 u.2.2.2.2.2.2.2.1.toInt32.toInt64 (1 : Int32)).2.2.2.2.2.2.2.2.2.2.2.2.toInt32.toInt64) hx hb dX4_intProduct_112 rfl ?_
          refine wr_calli (wr := []) (va_runV (As := [.int p0, .long (f_X4_divideAll u u.2.2.2.2.2.2.1.toInt32.toInt64 u.2.2.2.2.2.2.2.1.toInt32.toInt64 (1 : Int32)).2.2.2.2.2.2.2.2.2.2.2.2.toInt32.toInt64]) (rest := []) ⟨hx, hb, hml, hown, hts⟩ (mt_X4_done_ l dC dI g0 g1 g2 cB cC H.size (f_X4_divideAll u u.2.2.2.2.2.2.1.toInt32.toInt64 u.2.2.2.2.2.2.2.1.toInt32.toInt64 (1 : Int32)) p0 (f_X4_divideAll u u.2.2.2.2.2.2.1.toInt32.toInt64 u.2.2.2.2.2.2.2.1.toInt32.toInt64 (1 : Int32)).2.2.2.2.2.2.2.2.2.2.2.2.toInt32.toInt64 hd) (cwV 2 hts gX4_106_X4_done_ rfl rfl rfl (by decide +kernel) ⟨Nat.le_of_ble_eq_true rfl, Nat.le_of_ble_eq_true rfl⟩) (wr_V hK hP hD (ci := 1) (q0 := 0) rfl rfl rfl) rfl rfl hl.1 rfl (lv_room (Nat.le_of_ble_eq_true rfl)) dX4_intProduct_113 ⟨Nat.le_of_ble_eq_true rfl, Nat.le_of_ble_eq_true rfl⟩) hS hP hD hA [0, 1, 2] [] rfl rfl (by decide) (by decide) (fun r_ v_ H locs hw hP hD hS => ?_)
          obtain ⟨rfl, rfl⟩ := hw
          refine W.eq (g2 := F0 m 116 ls [.int (f_X4_done_ (f_X4_divideAll u u.2.2.2.2.2.2.1.toInt32.toInt64 u.2.2.2.2.2.2.2.1.toInt32.toInt64 (1 : Int32)) p0 (f_X4_divideAll u u.2.2.2.2.2.2.1.toInt32.toInt64 u.2.2.2.2.2.2.2.1.toInt32.toInt64 (1 : Int32)).2.2.2.2.2.2.2.2.2.2.2.2.toInt32.toInt64).1]) rfl ?_
          have hP : va_P (dC, dI) vwCl (Wm g0 g1 g2 cB cC (f_X4_done_ (f_X4_divideAll u u.2.2.2.2.2.2.1.toInt32.toInt64 u.2.2.2.2.2.2.2.1.toInt32.toInt64 (1 : Int32)) p0 (f_X4_divideAll u u.2.2.2.2.2.2.1.toInt32.toInt64 u.2.2.2.2.2.2.2.1.toInt32.toInt64 (1 : Int32)).2.2.2.2.2.2.2.2.2.2.2.2.toInt32.toInt64).2) H := hP
          have hD : va_D A (Wm g0 g1 g2 cB cC (f_X4_done_ (f_X4_divideAll u u.2.2.2.2.2.2.1.toInt32.toInt64 u.2.2.2.2.2.2.2.1.toInt32.toInt64 (1 : Int32)) p0 (f_X4_divideAll u u.2.2.2.2.2.2.1.toInt32.toInt64 u.2.2.2.2.2.2.2.1.toInt32.toInt64 (1 : Int32)).2.2.2.2.2.2.2.2.2.2.2.2.toInt32.toInt64).2) := hD
          have hF : f_X4_intProduct u p0 p1 = ((f_X4_done_ (f_X4_divideAll u u.2.2.2.2.2.2.1.toInt32.toInt64 u.2.2.2.2.2.2.2.1.toInt32.toInt64 (1 : Int32)) p0 (f_X4_divideAll u u.2.2.2.2.2.2.1.toInt32.toInt64 u.2.2.2.2.2.2.2.1.toInt32.toInt64 (1 : Int32)).2.2.2.2.2.2.2.2.2.2.2.2.toInt32.toInt64).1, (f_X4_done_ (f_X4_divideAll u u.2.2.2.2.2.2.1.toInt32.toInt64 u.2.2.2.2.2.2.2.1.toInt32.toInt64 (1 : Int32)) p0 (f_X4_divideAll u u.2.2.2.2.2.2.1.toInt32.toInt64 u.2.2.2.2.2.2.2.1.toInt32.toInt64 (1 : Int32)).2.2.2.2.2.2.2.2.2.2.2.2.toInt32.toInt64).2) := by unfold f_X4_intProduct; rw [if_neg c1, if_pos c2, if_pos c3, if_pos c4]
          exact W.iret (v := (f_X4_done_ (f_X4_divideAll u u.2.2.2.2.2.2.1.toInt32.toInt64 u.2.2.2.2.2.2.2.1.toInt32.toInt64 (1 : Int32)) p0 (f_X4_divideAll u u.2.2.2.2.2.2.1.toInt32.toInt64 u.2.2.2.2.2.2.2.1.toInt32.toInt64 (1 : Int32)).2.2.2.2.2.2.2.2.2.2.2.2.toInt32.toInt64).1) hx hb hr (fun t ht hW => ⟨⟨(f_X4_done_ (f_X4_divideAll u u.2.2.2.2.2.2.1.toInt32.toInt64 u.2.2.2.2.2.2.2.1.toInt32.toInt64 (1 : Int32)) p0 (f_X4_divideAll u u.2.2.2.2.2.2.1.toInt32.toInt64 u.2.2.2.2.2.2.2.1.toInt32.toInt64 (1 : Int32)).2.2.2.2.2.2.2.2.2.2.2.2.toInt32.toInt64).1, (f_X4_done_ (f_X4_divideAll u u.2.2.2.2.2.2.1.toInt32.toInt64 u.2.2.2.2.2.2.2.1.toInt32.toInt64 (1 : Int32)) p0 (f_X4_divideAll u u.2.2.2.2.2.2.1.toInt32.toInt64 u.2.2.2.2.2.2.2.1.toInt32.toInt64 (1 : Int32)).2.2.2.2.2.2.2.2.2.2.2.2.toInt32.toInt64).2, rfl, ⟨(congrArg Prod.fst hF).symm, (congrArg Prod.snd hF).symm⟩, by rw [ht]; exact hP, va_K.moved hW.alike hK, hD⟩, hS.F ht⟩) hS.2.2 dX4_intProduct_116
        · refine lv_aload_n hx hb dX4_intProduct_100 rfl (lv_at hl 1 rfl) ?_
          refine va_get (D := (dC, dI)) (ci := 1) (v := .long (f_X4_divideAll u u.2.2.2.2.2.2.1.toInt32.toInt64 u.2.2.2.2.2.2.2.1.toInt32.toInt64 (1 : Int32)).2.2.2.2.2.2.2.2.2.2.2.1) (C := RX4) (T := TX4) (N := 13) hx hb hts inX4 hown hK hP 0 rfl rfl 11 (by decide) (hts _ qw_257) (fun _ h9 => h9) rfl dX4_intProduct_101 ?_
          refine lv_goto (tgt := 111) hx hb dX4_intProduct_104 (by decide) ?_
          refine lv_l2i (v := (f_X4_divideAll u u.2.2.2.2.2.2.1.toInt32.toInt64 u.2.2.2.2.2.2.2.1.toInt32.toInt64 (1 : Int32)).2.2.2.2.2.2.2.2.2.2.2.1.toInt32) hx hb dX4_intProduct_111 rfl ?_
          refine lv_i2l (v := (f_X4_divideAll u u.2.2.2.2.2.2.1.toInt32.toInt64 u.2.2.2.2.2.2.2.1.toInt32.toInt64 (1 : Int32)).2.2.2.2.2.2.2.2.2.2.2.1.toInt32.toInt64) hx hb dX4_intProduct_112 rfl ?_
          refine wr_calli (wr := []) (va_runV (As := [.int p0, .long (f_X4_divideAll u u.2.2.2.2.2.2.1.toInt32.toInt64 u.2.2.2.2.2.2.2.1.toInt32.toInt64 (1 : Int32)).2.2.2.2.2.2.2.2.2.2.2.1.toInt32.toInt64]) (rest := []) ⟨hx, hb, hml, hown, hts⟩ (mt_X4_done_ l dC dI g0 g1 g2 cB cC H.size (f_X4_divideAll u u.2.2.2.2.2.2.1.toInt32.toInt64 u.2.2.2.2.2.2.2.1.toInt32.toInt64 (1 : Int32)) p0 (f_X4_divideAll u u.2.2.2.2.2.2.1.toInt32.toInt64 u.2.2.2.2.2.2.2.1.toInt32.toInt64 (1 : Int32)).2.2.2.2.2.2.2.2.2.2.2.1.toInt32.toInt64 hd) (cwV 2 hts gX4_106_X4_done_ rfl rfl rfl (by decide +kernel) ⟨Nat.le_of_ble_eq_true rfl, Nat.le_of_ble_eq_true rfl⟩) (wr_V hK hP hD (ci := 1) (q0 := 0) rfl rfl rfl) rfl rfl hl.1 rfl (lv_room (Nat.le_of_ble_eq_true rfl)) dX4_intProduct_113 ⟨Nat.le_of_ble_eq_true rfl, Nat.le_of_ble_eq_true rfl⟩) hS hP hD hA [0, 1, 2] [] rfl rfl (by decide) (by decide) (fun r_ v_ H locs hw hP hD hS => ?_)
          obtain ⟨rfl, rfl⟩ := hw
          refine W.eq (g2 := F0 m 116 ls [.int (f_X4_done_ (f_X4_divideAll u u.2.2.2.2.2.2.1.toInt32.toInt64 u.2.2.2.2.2.2.2.1.toInt32.toInt64 (1 : Int32)) p0 (f_X4_divideAll u u.2.2.2.2.2.2.1.toInt32.toInt64 u.2.2.2.2.2.2.2.1.toInt32.toInt64 (1 : Int32)).2.2.2.2.2.2.2.2.2.2.2.1.toInt32.toInt64).1]) rfl ?_
          have hP : va_P (dC, dI) vwCl (Wm g0 g1 g2 cB cC (f_X4_done_ (f_X4_divideAll u u.2.2.2.2.2.2.1.toInt32.toInt64 u.2.2.2.2.2.2.2.1.toInt32.toInt64 (1 : Int32)) p0 (f_X4_divideAll u u.2.2.2.2.2.2.1.toInt32.toInt64 u.2.2.2.2.2.2.2.1.toInt32.toInt64 (1 : Int32)).2.2.2.2.2.2.2.2.2.2.2.1.toInt32.toInt64).2) H := hP
          have hD : va_D A (Wm g0 g1 g2 cB cC (f_X4_done_ (f_X4_divideAll u u.2.2.2.2.2.2.1.toInt32.toInt64 u.2.2.2.2.2.2.2.1.toInt32.toInt64 (1 : Int32)) p0 (f_X4_divideAll u u.2.2.2.2.2.2.1.toInt32.toInt64 u.2.2.2.2.2.2.2.1.toInt32.toInt64 (1 : Int32)).2.2.2.2.2.2.2.2.2.2.2.1.toInt32.toInt64).2) := hD
          have hF : f_X4_intProduct u p0 p1 = ((f_X4_done_ (f_X4_divideAll u u.2.2.2.2.2.2.1.toInt32.toInt64 u.2.2.2.2.2.2.2.1.toInt32.toInt64 (1 : Int32)) p0 (f_X4_divideAll u u.2.2.2.2.2.2.1.toInt32.toInt64 u.2.2.2.2.2.2.2.1.toInt32.toInt64 (1 : Int32)).2.2.2.2.2.2.2.2.2.2.2.1.toInt32.toInt64).1, (f_X4_done_ (f_X4_divideAll u u.2.2.2.2.2.2.1.toInt32.toInt64 u.2.2.2.2.2.2.2.1.toInt32.toInt64 (1 : Int32)) p0 (f_X4_divideAll u u.2.2.2.2.2.2.1.toInt32.toInt64 u.2.2.2.2.2.2.2.1.toInt32.toInt64 (1 : Int32)).2.2.2.2.2.2.2.2.2.2.2.1.toInt32.toInt64).2) := by unfold f_X4_intProduct; rw [if_neg c1, if_pos c2, if_pos c3, if_neg c4]
          exact W.iret (v := (f_X4_done_ (f_X4_divideAll u u.2.2.2.2.2.2.1.toInt32.toInt64 u.2.2.2.2.2.2.2.1.toInt32.toInt64 (1 : Int32)) p0 (f_X4_divideAll u u.2.2.2.2.2.2.1.toInt32.toInt64 u.2.2.2.2.2.2.2.1.toInt32.toInt64 (1 : Int32)).2.2.2.2.2.2.2.2.2.2.2.1.toInt32.toInt64).1) hx hb hr (fun t ht hW => ⟨⟨(f_X4_done_ (f_X4_divideAll u u.2.2.2.2.2.2.1.toInt32.toInt64 u.2.2.2.2.2.2.2.1.toInt32.toInt64 (1 : Int32)) p0 (f_X4_divideAll u u.2.2.2.2.2.2.1.toInt32.toInt64 u.2.2.2.2.2.2.2.1.toInt32.toInt64 (1 : Int32)).2.2.2.2.2.2.2.2.2.2.2.1.toInt32.toInt64).1, (f_X4_done_ (f_X4_divideAll u u.2.2.2.2.2.2.1.toInt32.toInt64 u.2.2.2.2.2.2.2.1.toInt32.toInt64 (1 : Int32)) p0 (f_X4_divideAll u u.2.2.2.2.2.2.1.toInt32.toInt64 u.2.2.2.2.2.2.2.1.toInt32.toInt64 (1 : Int32)).2.2.2.2.2.2.2.2.2.2.2.1.toInt32.toInt64).2, rfl, ⟨(congrArg Prod.fst hF).symm, (congrArg Prod.snd hF).symm⟩, by rw [ht]; exact hP, va_K.moved hW.alike hK, hD⟩, hS.F ht⟩) hS.2.2 dX4_intProduct_116
      · refine lv_iload_n hx hb dX4_intProduct_33 rfl (lv_at hl 2 rfl) ?_
        refine lv_bipush (v := (6 : Int32)) hx hb dX4_intProduct_34 (by decide) ?_
        refine lv_icmp_ne (tgt := 43) hx hb dX4_intProduct_36 (by decide) (fun c5 => ?_) (fun c5 => ?_)
        · refine lv_iconst (v := (0 : Int32)) hx hb dX4_intProduct_43 (by decide) ?_
          refine lv_istore_n (lv' := [(3, .int (0 : Int32)), (0, .ref g0), (1, .int p0), (2, .int p1)]) hx hb dX4_intProduct_44 rfl hl (by decide) rfl (fun ls hl => ?_)
          refine lv_aload_n hx hb dX4_intProduct_45 rfl (lv_at hl 1 rfl) ?_
          refine lv_iload_n hx hb dX4_intProduct_46 rfl (lv_at hl 0 rfl) ?_
          refine lv_if_eq (tgt := 59) hx hb dX4_intProduct_47 (by decide) (fun _ => ?_) (fun c_ => absurd c_ (by decide))
          refine lv_aload_n hx hb dX4_intProduct_59 rfl (lv_at hl 1 rfl) ?_
          refine va_get (D := (dC, dI)) (ci := 1) (v := .long u.2.2.2.2.2.2.1) (C := RX4) (T := TX4) (N := 13) hx hb hts inX4 hown hK hP 0 rfl rfl 6 (by decide) (hts _ qw_287) (fun _ h9 => h9) rfl dX4_intProduct_60 ?_
          refine lv_ldc2 (v := (4294967295 : Int64)) hx hb hown (hts _ qw_324) dX4_intProduct_63 ?_
          refine lv_land hx hb dX4_intProduct_66 ?_
          refine lv_iload_n hx hb dX4_intProduct_67 rfl (lv_at hl 0 rfl) ?_
          refine lv_if_eq (tgt := 80) hx hb dX4_intProduct_68 (by decide) (fun _ => ?_) (fun c_ => absurd c_ (by decide))
          refine lv_aload_n hx hb dX4_intProduct_80 rfl (lv_at hl 1 rfl) ?_
          refine va_get (D := (dC, dI)) (ci := 1) (v := .long u.2.2.2.2.2.2.2.1) (C := RX4) (T := TX4) (N := 13) hx hb hts inX4 hown hK hP 0 rfl rfl 7 (by decide) (hts _ qw_288) (fun _ h9 => h9) rfl dX4_intProduct_81 ?_
          refine lv_ldc2 (v := (4294967295 : Int64)) hx hb hown (hts _ qw_324) dX4_intProduct_84 ?_
          refine lv_land hx hb dX4_intProduct_87 ?_
          refine lv_iload_n hx hb dX4_intProduct_88 rfl (lv_at hl 0 rfl) ?_
          refine wr_callv (wr := []) (va_runV (As := [.long (u.2.2.2.2.2.2.1 &&& (4294967295 : Int64)), .long (u.2.2.2.2.2.2.2.1 &&& (4294967295 : Int64)), .int (0 : Int32)]) (rest := []) ⟨hx, hb, hml, hown, hts⟩ (mt_X4_divideAll l dC dI g0 g1 g2 cB cC s.heap.size u (u.2.2.2.2.2.2.1 &&& (4294967295 : Int64)) (u.2.2.2.2.2.2.2.1 &&& (4294967295 : Int64)) (0 : Int32)) (cwV 3 hts gX4_114_X4_divideAll rfl rfl rfl (by decide +kernel) ⟨Nat.le_of_ble_eq_true rfl, Nat.le_of_ble_eq_true rfl⟩) (wr_V hK hP hD (ci := 1) (q0 := 0) rfl rfl rfl) rfl rfl hl.1 rfl (lv_room (Nat.le_of_ble_eq_true rfl)) dX4_intProduct_89 ⟨Nat.le_of_ble_eq_true rfl, Nat.le_of_ble_eq_true rfl⟩) hS hP hD hA [0, 1, 2] [] rfl rfl (by decide) (by decide) (fun v_ H locs hw hP hD hS => ?_)
          subst hw
          refine W.eq (g2 := F0 m 92 ls []) rfl ?_
          have hP : va_P (dC, dI) vwCl (Wm g0 g1 g2 cB cC (f_X4_divideAll u (u.2.2.2.2.2.2.1 &&& (4294967295 : Int64)) (u.2.2.2.2.2.2.2.1 &&& (4294967295 : Int64)) (0 : Int32))) H := hP
          have hD : va_D A (Wm g0 g1 g2 cB cC (f_X4_divideAll u (u.2.2.2.2.2.2.1 &&& (4294967295 : Int64)) (u.2.2.2.2.2.2.2.1 &&& (4294967295 : Int64)) (0 : Int32))) := hD
          refine lv_aload_n hx hb dX4_intProduct_92 rfl (lv_at hl 1 rfl) ?_
          refine lv_iload_n hx hb dX4_intProduct_93 rfl (lv_at hl 2 rfl) ?_
          refine lv_iload_n hx hb dX4_intProduct_94 rfl (lv_at hl 3 rfl) ?_
          refine lv_bipush (v := (6 : Int32)) hx hb dX4_intProduct_95 (by decide) ?_
          refine lv_icmp_ge (tgt := 107) hx hb dX4_intProduct_97 (by decide) (fun c6 => ?_) (fun c6 => ?_)
          · refine lv_aload_n hx hb dX4_intProduct_107 rfl (lv_at hl 1 rfl) ?_
            refine va_get (D := (dC, dI)) (ci := 1) (v := .long (f_X4_divideAll u (u.2.2.2.2.2.2.1 &&& (4294967295 : Int64)) (u.2.2.2.2.2.2.2.1 &&& (4294967295 : Int64)) (0 : Int32)).2.2.2.2.2.2.2.2.2.2.2.2) (C := RX4) (T := TX4) (N := 13) hx hb hts inX4 hown hK hP 0 rfl rfl 12 (by decide) (hts _ qw_256) (fun _ h9 => h9) rfl dX4_intProduct_108 ?_
            refine lv_l2i (v := (f_X4_divideAll u (u.2.2.2.2.2.2.1 &&& (4294967295 : Int64)) (u.2.2.2.2.2.2.2.1 &&& (4294967295 : Int64)) (0 : Int32)).2.2.2.2.2.2.2.2.2.2.2.2.toInt32) hx hb dX4_intProduct_111 rfl ?_
            refine lv_i2l (v := (f_X4_divideAll u (u.2.2.2.2.2.2.1 &&& (4294967295 : Int64)) (u.2.2.2.2.2.2.2.1 &&& (4294967295 : Int64)) (0 : Int32)).2.2.2.2.2.2.2.2.2.2.2.2.toInt32.toInt64) hx hb dX4_intProduct_112 rfl ?_
            refine wr_calli (wr := []) (va_runV (As := [.int p0, .long (f_X4_divideAll u (u.2.2.2.2.2.2.1 &&& (4294967295 : Int64)) (u.2.2.2.2.2.2.2.1 &&& (4294967295 : Int64)) (0 : Int32)).2.2.2.2.2.2.2.2.2.2.2.2.toInt32.toInt64]) (rest := []) ⟨hx, hb, hml, hown, hts⟩ (mt_X4_done_ l dC dI g0 g1 g2 cB cC H.size (f_X4_divideAll u (u.2.2.2.2.2.2.1 &&& (4294967295 : Int64)) (u.2.2.2.2.2.2.2.1 &&& (4294967295 : Int64)) (0 : Int32)) p0 (f_X4_divideAll u (u.2.2.2.2.2.2.1 &&& (4294967295 : Int64)) (u.2.2.2.2.2.2.2.1 &&& (4294967295 : Int64)) (0 : Int32)).2.2.2.2.2.2.2.2.2.2.2.2.toInt32.toInt64 hd) (cwV 2 hts gX4_106_X4_done_ rfl rfl rfl (by decide +kernel) ⟨Nat.le_of_ble_eq_true rfl, Nat.le_of_ble_eq_true rfl⟩) (wr_V hK hP hD (ci := 1) (q0 := 0) rfl rfl rfl) rfl rfl hl.1 rfl (lv_room (Nat.le_of_ble_eq_true rfl)) dX4_intProduct_113 ⟨Nat.le_of_ble_eq_true rfl, Nat.le_of_ble_eq_true rfl⟩) hS hP hD hA [0, 1, 2] [] rfl rfl (by decide) (by decide) (fun r_ v_ H locs hw hP hD hS => ?_)
            obtain ⟨rfl, rfl⟩ := hw
            refine W.eq (g2 := F0 m 116 ls [.int (f_X4_done_ (f_X4_divideAll u (u.2.2.2.2.2.2.1 &&& (4294967295 : Int64)) (u.2.2.2.2.2.2.2.1 &&& (4294967295 : Int64)) (0 : Int32)) p0 (f_X4_divideAll u (u.2.2.2.2.2.2.1 &&& (4294967295 : Int64)) (u.2.2.2.2.2.2.2.1 &&& (4294967295 : Int64)) (0 : Int32)).2.2.2.2.2.2.2.2.2.2.2.2.toInt32.toInt64).1]) rfl ?_
            have hP : va_P (dC, dI) vwCl (Wm g0 g1 g2 cB cC (f_X4_done_ (f_X4_divideAll u (u.2.2.2.2.2.2.1 &&& (4294967295 : Int64)) (u.2.2.2.2.2.2.2.1 &&& (4294967295 : Int64)) (0 : Int32)) p0 (f_X4_divideAll u (u.2.2.2.2.2.2.1 &&& (4294967295 : Int64)) (u.2.2.2.2.2.2.2.1 &&& (4294967295 : Int64)) (0 : Int32)).2.2.2.2.2.2.2.2.2.2.2.2.toInt32.toInt64).2) H := hP
            have hD : va_D A (Wm g0 g1 g2 cB cC (f_X4_done_ (f_X4_divideAll u (u.2.2.2.2.2.2.1 &&& (4294967295 : Int64)) (u.2.2.2.2.2.2.2.1 &&& (4294967295 : Int64)) (0 : Int32)) p0 (f_X4_divideAll u (u.2.2.2.2.2.2.1 &&& (4294967295 : Int64)) (u.2.2.2.2.2.2.2.1 &&& (4294967295 : Int64)) (0 : Int32)).2.2.2.2.2.2.2.2.2.2.2.2.toInt32.toInt64).2) := hD
            have hF : f_X4_intProduct u p0 p1 = ((f_X4_done_ (f_X4_divideAll u (u.2.2.2.2.2.2.1 &&& (4294967295 : Int64)) (u.2.2.2.2.2.2.2.1 &&& (4294967295 : Int64)) (0 : Int32)) p0 (f_X4_divideAll u (u.2.2.2.2.2.2.1 &&& (4294967295 : Int64)) (u.2.2.2.2.2.2.2.1 &&& (4294967295 : Int64)) (0 : Int32)).2.2.2.2.2.2.2.2.2.2.2.2.toInt32.toInt64).1, (f_X4_done_ (f_X4_divideAll u (u.2.2.2.2.2.2.1 &&& (4294967295 : Int64)) (u.2.2.2.2.2.2.2.1 &&& (4294967295 : Int64)) (0 : Int32)) p0 (f_X4_divideAll u (u.2.2.2.2.2.2.1 &&& (4294967295 : Int64)) (u.2.2.2.2.2.2.2.1 &&& (4294967295 : Int64)) (0 : Int32)).2.2.2.2.2.2.2.2.2.2.2.2.toInt32.toInt64).2) := by unfold f_X4_intProduct; rw [if_neg c1, if_pos c2, if_neg c3, if_neg c5, if_pos c6]
            exact W.iret (v := (f_X4_done_ (f_X4_divideAll u (u.2.2.2.2.2.2.1 &&& (4294967295 : Int64)) (u.2.2.2.2.2.2.2.1 &&& (4294967295 : Int64)) (0 : Int32)) p0 (f_X4_divideAll u (u.2.2.2.2.2.2.1 &&& (4294967295 : Int64)) (u.2.2.2.2.2.2.2.1 &&& (4294967295 : Int64)) (0 : Int32)).2.2.2.2.2.2.2.2.2.2.2.2.toInt32.toInt64).1) hx hb hr (fun t ht hW => ⟨⟨(f_X4_done_ (f_X4_divideAll u (u.2.2.2.2.2.2.1 &&& (4294967295 : Int64)) (u.2.2.2.2.2.2.2.1 &&& (4294967295 : Int64)) (0 : Int32)) p0 (f_X4_divideAll u (u.2.2.2.2.2.2.1 &&& (4294967295 : Int64)) (u.2.2.2.2.2.2.2.1 &&& (4294967295 : Int64)) (0 : Int32)).2.2.2.2.2.2.2.2.2.2.2.2.toInt32.toInt64).1, (f_X4_done_ (f_X4_divideAll u (u.2.2.2.2.2.2.1 &&& (4294967295 : Int64)) (u.2.2.2.2.2.2.2.1 &&& (4294967295 : Int64)) (0 : Int32)) p0 (f_X4_divideAll u (u.2.2.2.2.2.2.1 &&& (4294967295 : Int64)) (u.2.2.2.2.2.2.2.1 &&& (4294967295 : Int64)) (0 : Int32)).2.2.2.2.2.2.2.2.2.2.2.2.toInt32.toInt64).2, rfl, ⟨(congrArg Prod.fst hF).symm, (congrArg Prod.snd hF).symm⟩, by rw [ht]; exact hP, va_K.moved hW.alike hK, hD⟩, hS.F ht⟩) hS.2.2 dX4_intProduct_116
          · refine lv_aload_n hx hb dX4_intProduct_100 rfl (lv_at hl 1 rfl) ?_
            refine va_get (D := (dC, dI)) (ci := 1) (v := .long (f_X4_divideAll u (u.2.2.2.2.2.2.1 &&& (4294967295 : Int64)) (u.2.2.2.2.2.2.2.1 &&& (4294967295 : Int64)) (0 : Int32)).2.2.2.2.2.2.2.2.2.2.2.1) (C := RX4) (T := TX4) (N := 13) hx hb hts inX4 hown hK hP 0 rfl rfl 11 (by decide) (hts _ qw_257) (fun _ h9 => h9) rfl dX4_intProduct_101 ?_
            refine lv_goto (tgt := 111) hx hb dX4_intProduct_104 (by decide) ?_
            refine lv_l2i (v := (f_X4_divideAll u (u.2.2.2.2.2.2.1 &&& (4294967295 : Int64)) (u.2.2.2.2.2.2.2.1 &&& (4294967295 : Int64)) (0 : Int32)).2.2.2.2.2.2.2.2.2.2.2.1.toInt32) hx hb dX4_intProduct_111 rfl ?_
            refine lv_i2l (v := (f_X4_divideAll u (u.2.2.2.2.2.2.1 &&& (4294967295 : Int64)) (u.2.2.2.2.2.2.2.1 &&& (4294967295 : Int64)) (0 : Int32)).2.2.2.2.2.2.2.2.2.2.2.1.toInt32.toInt64) hx hb dX4_intProduct_112 rfl ?_
            refine wr_calli (wr := []) (va_runV (As := [.int p0, .long (f_X4_divideAll u (u.2.2.2.2.2.2.1 &&& (4294967295 : Int64)) (u.2.2.2.2.2.2.2.1 &&& (4294967295 : Int64)) (0 : Int32)).2.2.2.2.2.2.2.2.2.2.2.1.toInt32.toInt64]) (rest := []) ⟨hx, hb, hml, hown, hts⟩ (mt_X4_done_ l dC dI g0 g1 g2 cB cC H.size (f_X4_divideAll u (u.2.2.2.2.2.2.1 &&& (4294967295 : Int64)) (u.2.2.2.2.2.2.2.1 &&& (4294967295 : Int64)) (0 : Int32)) p0 (f_X4_divideAll u (u.2.2.2.2.2.2.1 &&& (4294967295 : Int64)) (u.2.2.2.2.2.2.2.1 &&& (4294967295 : Int64)) (0 : Int32)).2.2.2.2.2.2.2.2.2.2.2.1.toInt32.toInt64 hd) (cwV 2 hts gX4_106_X4_done_ rfl rfl rfl (by decide +kernel) ⟨Nat.le_of_ble_eq_true rfl, Nat.le_of_ble_eq_true rfl⟩) (wr_V hK hP hD (ci := 1) (q0 := 0) rfl rfl rfl) rfl rfl hl.1 rfl (lv_room (Nat.le_of_ble_eq_true rfl)) dX4_intProduct_113 ⟨Nat.le_of_ble_eq_true rfl, Nat.le_of_ble_eq_true rfl⟩) hS hP hD hA [0, 1, 2] [] rfl rfl (by decide) (by decide) (fun r_ v_ H locs hw hP hD hS => ?_)
            obtain ⟨rfl, rfl⟩ := hw
            refine W.eq (g2 := F0 m 116 ls [.int (f_X4_done_ (f_X4_divideAll u (u.2.2.2.2.2.2.1 &&& (4294967295 : Int64)) (u.2.2.2.2.2.2.2.1 &&& (4294967295 : Int64)) (0 : Int32)) p0 (f_X4_divideAll u (u.2.2.2.2.2.2.1 &&& (4294967295 : Int64)) (u.2.2.2.2.2.2.2.1 &&& (4294967295 : Int64)) (0 : Int32)).2.2.2.2.2.2.2.2.2.2.2.1.toInt32.toInt64).1]) rfl ?_
            have hP : va_P (dC, dI) vwCl (Wm g0 g1 g2 cB cC (f_X4_done_ (f_X4_divideAll u (u.2.2.2.2.2.2.1 &&& (4294967295 : Int64)) (u.2.2.2.2.2.2.2.1 &&& (4294967295 : Int64)) (0 : Int32)) p0 (f_X4_divideAll u (u.2.2.2.2.2.2.1 &&& (4294967295 : Int64)) (u.2.2.2.2.2.2.2.1 &&& (4294967295 : Int64)) (0 : Int32)).2.2.2.2.2.2.2.2.2.2.2.1.toInt32.toInt64).2) H := hP
            have hD : va_D A (Wm g0 g1 g2 cB cC (f_X4_done_ (f_X4_divideAll u (u.2.2.2.2.2.2.1 &&& (4294967295 : Int64)) (u.2.2.2.2.2.2.2.1 &&& (4294967295 : Int64)) (0 : Int32)) p0 (f_X4_divideAll u (u.2.2.2.2.2.2.1 &&& (4294967295 : Int64)) (u.2.2.2.2.2.2.2.1 &&& (4294967295 : Int64)) (0 : Int32)).2.2.2.2.2.2.2.2.2.2.2.1.toInt32.toInt64).2) := hD
            have hF : f_X4_intProduct u p0 p1 = ((f_X4_done_ (f_X4_divideAll u (u.2.2.2.2.2.2.1 &&& (4294967295 : Int64)) (u.2.2.2.2.2.2.2.1 &&& (4294967295 : Int64)) (0 : Int32)) p0 (f_X4_divideAll u (u.2.2.2.2.2.2.1 &&& (4294967295 : Int64)) (u.2.2.2.2.2.2.2.1 &&& (4294967295 : Int64)) (0 : Int32)).2.2.2.2.2.2.2.2.2.2.2.1.toInt32.toInt64).1, (f_X4_done_ (f_X4_divideAll u (u.2.2.2.2.2.2.1 &&& (4294967295 : Int64)) (u.2.2.2.2.2.2.2.1 &&& (4294967295 : Int64)) (0 : Int32)) p0 (f_X4_divideAll u (u.2.2.2.2.2.2.1 &&& (4294967295 : Int64)) (u.2.2.2.2.2.2.2.1 &&& (4294967295 : Int64)) (0 : Int32)).2.2.2.2.2.2.2.2.2.2.2.1.toInt32.toInt64).2) := by unfold f_X4_intProduct; rw [if_neg c1, if_pos c2, if_neg c3, if_neg c5, if_neg c6]
            exact W.iret (v := (f_X4_done_ (f_X4_divideAll u (u.2.2.2.2.2.2.1 &&& (4294967295 : Int64)) (u.2.2.2.2.2.2.2.1 &&& (4294967295 : Int64)) (0 : Int32)) p0 (f_X4_divideAll u (u.2.2.2.2.2.2.1 &&& (4294967295 : Int64)) (u.2.2.2.2.2.2.2.1 &&& (4294967295 : Int64)) (0 : Int32)).2.2.2.2.2.2.2.2.2.2.2.1.toInt32.toInt64).1) hx hb hr (fun t ht hW => ⟨⟨(f_X4_done_ (f_X4_divideAll u (u.2.2.2.2.2.2.1 &&& (4294967295 : Int64)) (u.2.2.2.2.2.2.2.1 &&& (4294967295 : Int64)) (0 : Int32)) p0 (f_X4_divideAll u (u.2.2.2.2.2.2.1 &&& (4294967295 : Int64)) (u.2.2.2.2.2.2.2.1 &&& (4294967295 : Int64)) (0 : Int32)).2.2.2.2.2.2.2.2.2.2.2.1.toInt32.toInt64).1, (f_X4_done_ (f_X4_divideAll u (u.2.2.2.2.2.2.1 &&& (4294967295 : Int64)) (u.2.2.2.2.2.2.2.1 &&& (4294967295 : Int64)) (0 : Int32)) p0 (f_X4_divideAll u (u.2.2.2.2.2.2.1 &&& (4294967295 : Int64)) (u.2.2.2.2.2.2.2.1 &&& (4294967295 : Int64)) (0 : Int32)).2.2.2.2.2.2.2.2.2.2.2.1.toInt32.toInt64).2, rfl, ⟨(congrArg Prod.fst hF).symm, (congrArg Prod.snd hF).symm⟩, by rw [ht]; exact hP, va_K.moved hW.alike hK, hD⟩, hS.F ht⟩) hS.2.2 dX4_intProduct_116
        · refine lv_iconst (v := (1 : Int32)) hx hb dX4_intProduct_39 (by decide) ?_
          refine lv_goto (tgt := 44) hx hb dX4_intProduct_40 (by decide) ?_
          refine lv_istore_n (lv' := [(3, .int (1 : Int32)), (0, .ref g0), (1, .int p0), (2, .int p1)]) hx hb dX4_intProduct_44 rfl hl (by decide) rfl (fun ls hl => ?_)
          refine lv_aload_n hx hb dX4_intProduct_45 rfl (lv_at hl 1 rfl) ?_
          refine lv_iload_n hx hb dX4_intProduct_46 rfl (lv_at hl 0 rfl) ?_
          refine lv_if_eq (tgt := 59) hx hb dX4_intProduct_47 (by decide) (fun c_ => absurd c_ (by decide)) (fun _ => ?_)
          refine lv_aload_n hx hb dX4_intProduct_50 rfl (lv_at hl 1 rfl) ?_
          refine va_get (D := (dC, dI)) (ci := 1) (v := .long u.2.2.2.2.2.2.1) (C := RX4) (T := TX4) (N := 13) hx hb hts inX4 hown hK hP 0 rfl rfl 6 (by decide) (hts _ qw_287) (fun _ h9 => h9) rfl dX4_intProduct_51 ?_
          refine lv_l2i (v := u.2.2.2.2.2.2.1.toInt32) hx hb dX4_intProduct_54 rfl ?_
          refine lv_i2l (v := u.2.2.2.2.2.2.1.toInt32.toInt64) hx hb dX4_intProduct_55 rfl ?_
          refine lv_goto (tgt := 67) hx hb dX4_intProduct_56 (by decide) ?_
          refine lv_iload_n hx hb dX4_intProduct_67 rfl (lv_at hl 0 rfl) ?_
          refine lv_if_eq (tgt := 80) hx hb dX4_intProduct_68 (by decide) (fun c_ => absurd c_ (by decide)) (fun _ => ?_)
          refine lv_aload_n hx hb dX4_intProduct_71 rfl (lv_at hl 1 rfl) ?_
          refine va_get (D := (dC, dI)) (ci := 1) (v := .long u.2.2.2.2.2.2.2.1) (C := RX4) (T := TX4) (N := 13) hx hb hts inX4 hown hK hP 0 rfl rfl 7 (by decide) (hts _ qw_288) (fun _ h9 => h9) rfl dX4_intProduct_72 ?_
          refine lv_l2i (v := u.2.2.2.2.2.2.2.1.toInt32) hx hb dX4_intProduct_75 rfl ?_
          refine lv_i2l (v := u.2.2.2.2.2.2.2.1.toInt32.toInt64) hx hb dX4_intProduct_76 rfl ?_
          refine lv_goto (tgt := 88) hx hb dX4_intProduct_77 (by decide) ?_
          refine lv_iload_n hx hb dX4_intProduct_88 rfl (lv_at hl 0 rfl) ?_
          refine wr_callv (wr := []) (va_runV (As := [.long u.2.2.2.2.2.2.1.toInt32.toInt64, .long u.2.2.2.2.2.2.2.1.toInt32.toInt64, .int (1 : Int32)]) (rest := []) ⟨hx, hb, hml, hown, hts⟩ (mt_X4_divideAll l dC dI g0 g1 g2 cB cC s.heap.size u u.2.2.2.2.2.2.1.toInt32.toInt64 u.2.2.2.2.2.2.2.1.toInt32.toInt64 (1 : Int32)) (cwV 3 hts gX4_114_X4_divideAll rfl rfl rfl (by decide +kernel) ⟨Nat.le_of_ble_eq_true rfl, Nat.le_of_ble_eq_true rfl⟩) (wr_V hK hP hD (ci := 1) (q0 := 0) rfl rfl rfl) rfl rfl hl.1 rfl (lv_room (Nat.le_of_ble_eq_true rfl)) dX4_intProduct_89 ⟨Nat.le_of_ble_eq_true rfl, Nat.le_of_ble_eq_true rfl⟩) hS hP hD hA [0, 1, 2] [] rfl rfl (by decide) (by decide) (fun v_ H locs hw hP hD hS => ?_)
          subst hw
          refine W.eq (g2 := F0 m 92 ls []) rfl ?_
          have hP : va_P (dC, dI) vwCl (Wm g0 g1 g2 cB cC (f_X4_divideAll u u.2.2.2.2.2.2.1.toInt32.toInt64 u.2.2.2.2.2.2.2.1.toInt32.toInt64 (1 : Int32))) H := hP
          have hD : va_D A (Wm g0 g1 g2 cB cC (f_X4_divideAll u u.2.2.2.2.2.2.1.toInt32.toInt64 u.2.2.2.2.2.2.2.1.toInt32.toInt64 (1 : Int32))) := hD
          refine lv_aload_n hx hb dX4_intProduct_92 rfl (lv_at hl 1 rfl) ?_
          refine lv_iload_n hx hb dX4_intProduct_93 rfl (lv_at hl 2 rfl) ?_
          refine lv_iload_n hx hb dX4_intProduct_94 rfl (lv_at hl 3 rfl) ?_
          refine lv_bipush (v := (6 : Int32)) hx hb dX4_intProduct_95 (by decide) ?_
          refine lv_icmp_ge (tgt := 107) hx hb dX4_intProduct_97 (by decide) (fun c7 => ?_) (fun c7 => ?_)
          · refine lv_aload_n hx hb dX4_intProduct_107 rfl (lv_at hl 1 rfl) ?_
            refine va_get (D := (dC, dI)) (ci := 1) (v := .long (f_X4_divideAll u u.2.2.2.2.2.2.1.toInt32.toInt64 u.2.2.2.2.2.2.2.1.toInt32.toInt64 (1 : Int32)).2.2.2.2.2.2.2.2.2.2.2.2) (C := RX4) (T := TX4) (N := 13) hx hb hts inX4 hown hK hP 0 rfl rfl 12 (by decide) (hts _ qw_256) (fun _ h9 => h9) rfl dX4_intProduct_108 ?_
            refine lv_l2i (v := (f_X4_divideAll u u.2.2.2.2.2.2.1.toInt32.toInt64 u.2.2.2.2.2.2.2.1.toInt32.toInt64 (1 : Int32)).2.2.2.2.2.2.2.2.2.2.2.2.toInt32) hx hb dX4_intProduct_111 rfl ?_
            refine lv_i2l (v := (f_X4_divideAll u u.2.2.2.2.2.2.1.toInt32.toInt64 u.2.2.2.2.2.2.2.1.toInt32.toInt64 (1 : Int32)).2.2.2.2.2.2.2.2.2.2.2.2.toInt32.toInt64) hx hb dX4_intProduct_112 rfl ?_
            refine wr_calli (wr := []) (va_runV (As := [.int p0, .long (f_X4_divideAll u u.2.2.2.2.2.2.1.toInt32.toInt64 u.2.2.2.2.2.2.2.1.toInt32.toInt64 (1 : Int32)).2.2.2.2.2.2.2.2.2.2.2.2.toInt32.toInt64]) (rest := []) ⟨hx, hb, hml, hown, hts⟩ (mt_X4_done_ l dC dI g0 g1 g2 cB cC H.size (f_X4_divideAll u u.2.2.2.2.2.2.1.toInt32.toInt64 u.2.2.2.2.2.2.2.1.toInt32.toInt64 (1 : Int32)) p0 (f_X4_divideAll u u.2.2.2.2.2.2.1.toInt32.toInt64 u.2.2.2.2.2.2.2.1.toInt32.toInt64 (1 : Int32)).2.2.2.2.2.2.2.2.2.2.2.2.toInt32.toInt64 hd) (cwV 2 hts gX4_106_X4_done_ rfl rfl rfl (by decide +kernel) ⟨Nat.le_of_ble_eq_true rfl, Nat.le_of_ble_eq_true rfl⟩) (wr_V hK hP hD (ci := 1) (q0 := 0) rfl rfl rfl) rfl rfl hl.1 rfl (lv_room (Nat.le_of_ble_eq_true rfl)) dX4_intProduct_113 ⟨Nat.le_of_ble_eq_true rfl, Nat.le_of_ble_eq_true rfl⟩) hS hP hD hA [0, 1, 2] [] rfl rfl (by decide) (by decide) (fun r_ v_ H locs hw hP hD hS => ?_)
            obtain ⟨rfl, rfl⟩ := hw
            refine W.eq (g2 := F0 m 116 ls [.int (f_X4_done_ (f_X4_divideAll u u.2.2.2.2.2.2.1.toInt32.toInt64 u.2.2.2.2.2.2.2.1.toInt32.toInt64 (1 : Int32)) p0 (f_X4_divideAll u u.2.2.2.2.2.2.1.toInt32.toInt64 u.2.2.2.2.2.2.2.1.toInt32.toInt64 (1 : Int32)).2.2.2.2.2.2.2.2.2.2.2.2.toInt32.toInt64).1]) rfl ?_
            have hP : va_P (dC, dI) vwCl (Wm g0 g1 g2 cB cC (f_X4_done_ (f_X4_divideAll u u.2.2.2.2.2.2.1.toInt32.toInt64 u.2.2.2.2.2.2.2.1.toInt32.toInt64 (1 : Int32)) p0 (f_X4_divideAll u u.2.2.2.2.2.2.1.toInt32.toInt64 u.2.2.2.2.2.2.2.1.toInt32.toInt64 (1 : Int32)).2.2.2.2.2.2.2.2.2.2.2.2.toInt32.toInt64).2) H := hP
            have hD : va_D A (Wm g0 g1 g2 cB cC (f_X4_done_ (f_X4_divideAll u u.2.2.2.2.2.2.1.toInt32.toInt64 u.2.2.2.2.2.2.2.1.toInt32.toInt64 (1 : Int32)) p0 (f_X4_divideAll u u.2.2.2.2.2.2.1.toInt32.toInt64 u.2.2.2.2.2.2.2.1.toInt32.toInt64 (1 : Int32)).2.2.2.2.2.2.2.2.2.2.2.2.toInt32.toInt64).2) := hD
            have hF : f_X4_intProduct u p0 p1 = ((f_X4_done_ (f_X4_divideAll u u.2.2.2.2.2.2.1.toInt32.toInt64 u.2.2.2.2.2.2.2.1.toInt32.toInt64 (1 : Int32)) p0 (f_X4_divideAll u u.2.2.2.2.2.2.1.toInt32.toInt64 u.2.2.2.2.2.2.2.1.toInt32.toInt64 (1 : Int32)).2.2.2.2.2.2.2.2.2.2.2.2.toInt32.toInt64).1, (f_X4_done_ (f_X4_divideAll u u.2.2.2.2.2.2.1.toInt32.toInt64 u.2.2.2.2.2.2.2.1.toInt32.toInt64 (1 : Int32)) p0 (f_X4_divideAll u u.2.2.2.2.2.2.1.toInt32.toInt64 u.2.2.2.2.2.2.2.1.toInt32.toInt64 (1 : Int32)).2.2.2.2.2.2.2.2.2.2.2.2.toInt32.toInt64).2) := by unfold f_X4_intProduct; rw [if_neg c1, if_pos c2, if_neg c3, if_pos c5, if_pos c7]
            exact W.iret (v := (f_X4_done_ (f_X4_divideAll u u.2.2.2.2.2.2.1.toInt32.toInt64 u.2.2.2.2.2.2.2.1.toInt32.toInt64 (1 : Int32)) p0 (f_X4_divideAll u u.2.2.2.2.2.2.1.toInt32.toInt64 u.2.2.2.2.2.2.2.1.toInt32.toInt64 (1 : Int32)).2.2.2.2.2.2.2.2.2.2.2.2.toInt32.toInt64).1) hx hb hr (fun t ht hW => ⟨⟨(f_X4_done_ (f_X4_divideAll u u.2.2.2.2.2.2.1.toInt32.toInt64 u.2.2.2.2.2.2.2.1.toInt32.toInt64 (1 : Int32)) p0 (f_X4_divideAll u u.2.2.2.2.2.2.1.toInt32.toInt64 u.2.2.2.2.2.2.2.1.toInt32.toInt64 (1 : Int32)).2.2.2.2.2.2.2.2.2.2.2.2.toInt32.toInt64).1, (f_X4_done_ (f_X4_divideAll u u.2.2.2.2.2.2.1.toInt32.toInt64 u.2.2.2.2.2.2.2.1.toInt32.toInt64 (1 : Int32)) p0 (f_X4_divideAll u u.2.2.2.2.2.2.1.toInt32.toInt64 u.2.2.2.2.2.2.2.1.toInt32.toInt64 (1 : Int32)).2.2.2.2.2.2.2.2.2.2.2.2.toInt32.toInt64).2, rfl, ⟨(congrArg Prod.fst hF).symm, (congrArg Prod.snd hF).symm⟩, by rw [ht]; exact hP, va_K.moved hW.alike hK, hD⟩, hS.F ht⟩) hS.2.2 dX4_intProduct_116
          · refine lv_aload_n hx hb dX4_intProduct_100 rfl (lv_at hl 1 rfl) ?_
            refine va_get (D := (dC, dI)) (ci := 1) (v := .long (f_X4_divideAll u u.2.2.2.2.2.2.1.toInt32.toInt64 u.2.2.2.2.2.2.2.1.toInt32.toInt64 (1 : Int32)).2.2.2.2.2.2.2.2.2.2.2.1) (C := RX4) (T := TX4) (N := 13) hx hb hts inX4 hown hK hP 0 rfl rfl 11 (by decide) (hts _ qw_257) (fun _ h9 => h9) rfl dX4_intProduct_101 ?_
            refine lv_goto (tgt := 111) hx hb dX4_intProduct_104 (by decide) ?_
            refine lv_l2i (v := (f_X4_divideAll u u.2.2.2.2.2.2.1.toInt32.toInt64 u.2.2.2.2.2.2.2.1.toInt32.toInt64 (1 : Int32)).2.2.2.2.2.2.2.2.2.2.2.1.toInt32) hx hb dX4_intProduct_111 rfl ?_
            refine lv_i2l (v := (f_X4_divideAll u u.2.2.2.2.2.2.1.toInt32.toInt64 u.2.2.2.2.2.2.2.1.toInt32.toInt64 (1 : Int32)).2.2.2.2.2.2.2.2.2.2.2.1.toInt32.toInt64) hx hb dX4_intProduct_112 rfl ?_
            refine wr_calli (wr := []) (va_runV (As := [.int p0, .long (f_X4_divideAll u u.2.2.2.2.2.2.1.toInt32.toInt64 u.2.2.2.2.2.2.2.1.toInt32.toInt64 (1 : Int32)).2.2.2.2.2.2.2.2.2.2.2.1.toInt32.toInt64]) (rest := []) ⟨hx, hb, hml, hown, hts⟩ (mt_X4_done_ l dC dI g0 g1 g2 cB cC H.size (f_X4_divideAll u u.2.2.2.2.2.2.1.toInt32.toInt64 u.2.2.2.2.2.2.2.1.toInt32.toInt64 (1 : Int32)) p0 (f_X4_divideAll u u.2.2.2.2.2.2.1.toInt32.toInt64 u.2.2.2.2.2.2.2.1.toInt32.toInt64 (1 : Int32)).2.2.2.2.2.2.2.2.2.2.2.1.toInt32.toInt64 hd) (cwV 2 hts gX4_106_X4_done_ rfl rfl rfl (by decide +kernel) ⟨Nat.le_of_ble_eq_true rfl, Nat.le_of_ble_eq_true rfl⟩) (wr_V hK hP hD (ci := 1) (q0 := 0) rfl rfl rfl) rfl rfl hl.1 rfl (lv_room (Nat.le_of_ble_eq_true rfl)) dX4_intProduct_113 ⟨Nat.le_of_ble_eq_true rfl, Nat.le_of_ble_eq_true rfl⟩) hS hP hD hA [0, 1, 2] [] rfl rfl (by decide) (by decide) (fun r_ v_ H locs hw hP hD hS => ?_)
            obtain ⟨rfl, rfl⟩ := hw
            refine W.eq (g2 := F0 m 116 ls [.int (f_X4_done_ (f_X4_divideAll u u.2.2.2.2.2.2.1.toInt32.toInt64 u.2.2.2.2.2.2.2.1.toInt32.toInt64 (1 : Int32)) p0 (f_X4_divideAll u u.2.2.2.2.2.2.1.toInt32.toInt64 u.2.2.2.2.2.2.2.1.toInt32.toInt64 (1 : Int32)).2.2.2.2.2.2.2.2.2.2.2.1.toInt32.toInt64).1]) rfl ?_
            have hP : va_P (dC, dI) vwCl (Wm g0 g1 g2 cB cC (f_X4_done_ (f_X4_divideAll u u.2.2.2.2.2.2.1.toInt32.toInt64 u.2.2.2.2.2.2.2.1.toInt32.toInt64 (1 : Int32)) p0 (f_X4_divideAll u u.2.2.2.2.2.2.1.toInt32.toInt64 u.2.2.2.2.2.2.2.1.toInt32.toInt64 (1 : Int32)).2.2.2.2.2.2.2.2.2.2.2.1.toInt32.toInt64).2) H := hP
            have hD : va_D A (Wm g0 g1 g2 cB cC (f_X4_done_ (f_X4_divideAll u u.2.2.2.2.2.2.1.toInt32.toInt64 u.2.2.2.2.2.2.2.1.toInt32.toInt64 (1 : Int32)) p0 (f_X4_divideAll u u.2.2.2.2.2.2.1.toInt32.toInt64 u.2.2.2.2.2.2.2.1.toInt32.toInt64 (1 : Int32)).2.2.2.2.2.2.2.2.2.2.2.1.toInt32.toInt64).2) := hD
            have hF : f_X4_intProduct u p0 p1 = ((f_X4_done_ (f_X4_divideAll u u.2.2.2.2.2.2.1.toInt32.toInt64 u.2.2.2.2.2.2.2.1.toInt32.toInt64 (1 : Int32)) p0 (f_X4_divideAll u u.2.2.2.2.2.2.1.toInt32.toInt64 u.2.2.2.2.2.2.2.1.toInt32.toInt64 (1 : Int32)).2.2.2.2.2.2.2.2.2.2.2.1.toInt32.toInt64).1, (f_X4_done_ (f_X4_divideAll u u.2.2.2.2.2.2.1.toInt32.toInt64 u.2.2.2.2.2.2.2.1.toInt32.toInt64 (1 : Int32)) p0 (f_X4_divideAll u u.2.2.2.2.2.2.1.toInt32.toInt64 u.2.2.2.2.2.2.2.1.toInt32.toInt64 (1 : Int32)).2.2.2.2.2.2.2.2.2.2.2.1.toInt32.toInt64).2) := by unfold f_X4_intProduct; rw [if_neg c1, if_pos c2, if_neg c3, if_pos c5, if_neg c7]
            exact W.iret (v := (f_X4_done_ (f_X4_divideAll u u.2.2.2.2.2.2.1.toInt32.toInt64 u.2.2.2.2.2.2.2.1.toInt32.toInt64 (1 : Int32)) p0 (f_X4_divideAll u u.2.2.2.2.2.2.1.toInt32.toInt64 u.2.2.2.2.2.2.2.1.toInt32.toInt64 (1 : Int32)).2.2.2.2.2.2.2.2.2.2.2.1.toInt32.toInt64).1) hx hb hr (fun t ht hW => ⟨⟨(f_X4_done_ (f_X4_divideAll u u.2.2.2.2.2.2.1.toInt32.toInt64 u.2.2.2.2.2.2.2.1.toInt32.toInt64 (1 : Int32)) p0 (f_X4_divideAll u u.2.2.2.2.2.2.1.toInt32.toInt64 u.2.2.2.2.2.2.2.1.toInt32.toInt64 (1 : Int32)).2.2.2.2.2.2.2.2.2.2.2.1.toInt32.toInt64).1, (f_X4_done_ (f_X4_divideAll u u.2.2.2.2.2.2.1.toInt32.toInt64 u.2.2.2.2.2.2.2.1.toInt32.toInt64 (1 : Int32)) p0 (f_X4_divideAll u u.2.2.2.2.2.2.1.toInt32.toInt64 u.2.2.2.2.2.2.2.1.toInt32.toInt64 (1 : Int32)).2.2.2.2.2.2.2.2.2.2.2.1.toInt32.toInt64).2, rfl, ⟨(congrArg Prod.fst hF).symm, (congrArg Prod.snd hF).symm⟩, by rw [ht]; exact hP, va_K.moved hW.alike hK, hD⟩, hS.F ht⟩) hS.2.2 dX4_intProduct_116
    · refine lv_iconst (v := (-1 : Int32)) hx hb dX4_intProduct_26 (by decide) ?_
      have hF : f_X4_intProduct u p0 p1 = ((-1 : Int32), u) := by unfold f_X4_intProduct; rw [if_neg c1, if_neg c2]
      exact W.iret (v := (-1 : Int32)) hx hb hr (fun t ht hW => ⟨⟨(-1 : Int32), u, rfl, ⟨(congrArg Prod.fst hF).symm, (congrArg Prod.snd hF).symm⟩, by rw [ht]; exact hP, va_K.moved hW.alike hK, hD⟩, hS.F ht⟩) hS.2.2 dX4_intProduct_27
  · refine lv_aload_n hx hb dX4_intProduct_4 rfl (lv_at hl 0 rfl) ?_
    refine lv_iload_n hx hb dX4_intProduct_5 rfl (lv_at hl 1 rfl) ?_
    refine lv_aload_n hx hb dX4_intProduct_6 rfl (lv_at hl 0 rfl) ?_
    refine va_get (D := (dC, dI)) (ci := 1) (v := .long u.2.2.2.2.2.2.1) (C := RX4) (T := TX4) (N := 13) hx hb hts inX4 hown hK hP 0 rfl rfl 6 (by decide) (hts _ qw_287) (fun _ h9 => h9) rfl dX4_intProduct_7 ?_
    refine lv_aload_n hx hb dX4_intProduct_10 rfl (lv_at hl 0 rfl) ?_
    refine va_get (D := (dC, dI)) (ci := 1) (v := .long u.2.2.2.2.2.2.2.1) (C := RX4) (T := TX4) (N := 13) hx hb hts inX4 hown hK hP 0 rfl rfl 7 (by decide) (hts _ qw_288) (fun _ h9 => h9) rfl dX4_intProduct_11 ?_
    refine lv_lmul hx hb dX4_intProduct_14 ?_
    refine lv_l2i (v := (u.2.2.2.2.2.2.1 * u.2.2.2.2.2.2.2.1).toInt32) hx hb dX4_intProduct_15 rfl ?_
    refine lv_i2l (v := (u.2.2.2.2.2.2.1 * u.2.2.2.2.2.2.2.1).toInt32.toInt64) hx hb dX4_intProduct_16 rfl ?_
    refine wr_calli (wr := []) (va_runV (As := [.int p0, .long (u.2.2.2.2.2.2.1 * u.2.2.2.2.2.2.2.1).toInt32.toInt64]) (rest := []) ⟨hx, hb, hml, hown, hts⟩ (mt_X4_done_ l dC dI g0 g1 g2 cB cC s.heap.size u p0 (u.2.2.2.2.2.2.1 * u.2.2.2.2.2.2.2.1).toInt32.toInt64 hd) (cwV 2 hts gX4_106_X4_done_ rfl rfl rfl (by decide +kernel) ⟨Nat.le_of_ble_eq_true rfl, Nat.le_of_ble_eq_true rfl⟩) (wr_V hK hP hD (ci := 1) (q0 := 0) rfl rfl rfl) rfl rfl hl.1 rfl (lv_room (Nat.le_of_ble_eq_true rfl)) dX4_intProduct_17 ⟨Nat.le_of_ble_eq_true rfl, Nat.le_of_ble_eq_true rfl⟩) hS hP hD hA [0, 1, 2] [] rfl rfl (by decide) (by decide) (fun r_ v_ H locs hw hP hD hS => ?_)
    obtain ⟨rfl, rfl⟩ := hw
    refine W.eq (g2 := F0 m 20 ls [.int (f_X4_done_ u p0 (u.2.2.2.2.2.2.1 * u.2.2.2.2.2.2.2.1).toInt32.toInt64).1]) rfl ?_
    have hP : va_P (dC, dI) vwCl (Wm g0 g1 g2 cB cC (f_X4_done_ u p0 (u.2.2.2.2.2.2.1 * u.2.2.2.2.2.2.2.1).toInt32.toInt64).2) H := hP
    have hD : va_D A (Wm g0 g1 g2 cB cC (f_X4_done_ u p0 (u.2.2.2.2.2.2.1 * u.2.2.2.2.2.2.2.1).toInt32.toInt64).2) := hD
    have hF : f_X4_intProduct u p0 p1 = ((f_X4_done_ u p0 (u.2.2.2.2.2.2.1 * u.2.2.2.2.2.2.2.1).toInt32.toInt64).1, (f_X4_done_ u p0 (u.2.2.2.2.2.2.1 * u.2.2.2.2.2.2.2.1).toInt32.toInt64).2) := by unfold f_X4_intProduct; rw [if_pos c1]
    exact W.iret (v := (f_X4_done_ u p0 (u.2.2.2.2.2.2.1 * u.2.2.2.2.2.2.2.1).toInt32.toInt64).1) hx hb hr (fun t ht hW => ⟨⟨(f_X4_done_ u p0 (u.2.2.2.2.2.2.1 * u.2.2.2.2.2.2.2.1).toInt32.toInt64).1, (f_X4_done_ u p0 (u.2.2.2.2.2.2.1 * u.2.2.2.2.2.2.2.1).toInt32.toInt64).2, rfl, ⟨(congrArg Prod.fst hF).symm, (congrArg Prod.snd hF).symm⟩, by rw [ht]; exact hP, va_K.moved hW.alike hK, hD⟩, hS.F ht⟩) hS.2.2 dX4_intProduct_20

noncomputable def f_X4_intRegister (u : SmT) (p0 : Int32) (p1 : Int32) (p2 : Int32) : Int32 × SmT :=
  if p2 = (1 : Int32) then
    ((f_X4_intProduct u p0 p1).1, (f_X4_intProduct u p0 p1).2)
  else if p2 = 0 then
    if p1 = 0 then
      ((f_X4_done_ u p0 (u.2.2.2.2.2.2.1 + u.2.2.2.2.2.2.2.1).toInt32.toInt64).1, (f_X4_done_ u p0 (u.2.2.2.2.2.2.1 + u.2.2.2.2.2.2.2.1).toInt32.toInt64).2)
    else if p1 = (1 : Int32) then
      ((f_X4_done_ u p0 (u.2.2.2.2.2.2.1.toInt32 <<< ((u.2.2.2.2.2.2.2.1 &&& (31 : Int64)).toInt32 &&& 31)).toInt64).1, (f_X4_done_ u p0 (u.2.2.2.2.2.2.1.toInt32 <<< ((u.2.2.2.2.2.2.2.1 &&& (31 : Int64)).toInt32 &&& 31)).toInt64).2)
    else if p1 = (5 : Int32) then
      ((f_X4_done_ u p0 (j_iushr u.2.2.2.2.2.2.1.toInt32 (u.2.2.2.2.2.2.2.1 &&& (31 : Int64)).toInt32).toInt64).1, (f_X4_done_ u p0 (j_iushr u.2.2.2.2.2.2.1.toInt32 (u.2.2.2.2.2.2.2.1 &&& (31 : Int64)).toInt32).toInt64).2)
    else if p2 = (32 : Int32) then
      ((-1 : Int32), u)
    else
      ((-1 : Int32), u)
  else if p2 = (32 : Int32) then
    if p1 = 0 then
      ((f_X4_done_ u p0 (u.2.2.2.2.2.2.1 - u.2.2.2.2.2.2.2.1).toInt32.toInt64).1, (f_X4_done_ u p0 (u.2.2.2.2.2.2.1 - u.2.2.2.2.2.2.2.1).toInt32.toInt64).2)
    else if p1 = (5 : Int32) then
      ((f_X4_done_ u p0 (u.2.2.2.2.2.2.1.toInt32 >>> ((u.2.2.2.2.2.2.2.1 &&& (31 : Int64)).toInt32 &&& 31)).toInt64).1, (f_X4_done_ u p0 (u.2.2.2.2.2.2.1.toInt32 >>> ((u.2.2.2.2.2.2.2.1 &&& (31 : Int64)).toInt32 &&& 31)).toInt64).2)
    else
      ((-1 : Int32), u)
  else
    ((-1 : Int32), u)
set_option maxHeartbeats 4000000 in
set_option maxRecDepth 100000 in
theorem mt_X4_intRegister (l : Launch) (dC : Nat → ClassId) (dI : Nat → Nat → Nat) (g0 g1 g2 : Nat) (cB cC : ClassId) (sz : Nat) (u : SmT) (p0 : Int32) (p1 : Int32) (p2 : Int32) (hd : p0 ≤ (31 : Int32)) : Met l yX4_intRegister wsX4_intRegister ({ frames := 4, cells := 0, slots := 0, locals := 99 }) (wr_P [.ref g0, .int p0, .int p1, .int p2] (dC, dI) vwCl (Wm g0 g1 g2 cB cC u) [(cB, .long), (cC, .long)] sz) (va_Qi (fun r v => r = (f_X4_intRegister u p0 p1 p2).1 ∧ v = (f_X4_intRegister u p0 p1 p2).2) (wr_B (dC, dI) vwCl [(cB, .long), (cC, .long)] (va_A (Wm g0 g1 g2 cB cC u) sz) (Wm g0 g1 g2 cB cC)) (va_A (Wm g0 g1 g2 cB cC u) sz)) 0 0 (va_A (Wm g0 g1 g2 cB cC u) sz) := by
  refine Met.ofW (cc := cX4_intRegister) (maxL := 5) (ret := (some .int)) (by decide) rfl ?_
  intro p e s m args below meth c s₁ B hml hv
  obtain ⟨rfl, hsz, hP, hK, hD0⟩ := hv
  have hx := B.exec
  have hb := B.bytes
  have hr := B.returns
  have hts0 := atoms_spec (ws := wsX4_intRegister) B.pre
  have hts := fun (w : Cond) (h : w ∈ lw_G) => hts0 w (List.mem_cons_of_mem _ h)
  have hown : s.vm.findClass RX4 = some m.cls := findClass_of_methodNamed B.named
  have hlocks := B.notSynchronized
  subst hsz
  have hD := hD0.self (sz := s.heap.size)
  generalize hAe : va_A (Wm g0 g1 g2 cB cC u) s.heap.size = A at hD ⊢
  have hA : ∀ q : Nat, s.heap.size ≤ q → A q := fun q h => by rw [← hAe]; exact Or.inr h
  have hS : va_S A s.heap s.heap [] := va_S.rf
  have hl := lv_entry ([.ref g0, .int p0, .int p1, .int p2]) (n := 5) (Nat.le_of_ble_eq_true rfl)
  rw [lg_entry_eq]
  generalize (lg_sl ([.ref g0, .int p0, .int p1, .int p2]) ++ List.replicate (5 - (lg_sl ([.ref g0, .int p0, .int p1, .int p2])).length) Slot.unset).toArray = ls at hl ⊢
  have hl : lv_has ls 5 [(0, .ref g0), (1, .int p0), (2, .int p1), (3, .int p2)] := hl
  refine lv_aload_n hx hb dX4_intRegister_0 rfl (lv_at hl 0 rfl) ?_
  refine va_get (D := (dC, dI)) (ci := 1) (v := .long u.2.2.2.2.2.2.2.1) (C := RX4) (T := TX4) (N := 13) hx hb hts inX4 hown hK hP 0 rfl rfl 7 (by decide) (hts _ qw_288) (fun _ h9 => h9) rfl dX4_intRegister_1 ?_
  refine lv_ldc2 (v := (31 : Int64)) hx hb hown (hts _ qw_325) dX4_intRegister_4 ?_
  refine lv_land hx hb dX4_intRegister_7 ?_
  refine lv_l2i (v := (u.2.2.2.2.2.2.2.1 &&& (31 : Int64)).toInt32) hx hb dX4_intRegister_8 rfl ?_
  refine lv_istore (lv' := [(4, .int (u.2.2.2.2.2.2.2.1 &&& (31 : Int64)).toInt32), (0, .ref g0), (1, .int p0), (2, .int p1), (3, .int p2)]) hx hb dX4_intRegister_9 hl (by decide) rfl (fun ls hl => ?_)
  refine lv_iload_n hx hb dX4_intRegister_11 rfl (lv_at hl 4 rfl) ?_
  refine lv_iconst (v := (1 : Int32)) hx hb dX4_intRegister_12 (by decide) ?_
  refine lv_icmp_ne (tgt := 23) hx hb dX4_intRegister_13 (by decide) (fun c1 => ?_) (fun c1 => ?_)
  · refine lv_iload_n hx hb dX4_intRegister_23 rfl (lv_at hl 4 rfl) ?_
    refine lv_if_ne (tgt := 91) hx hb dX4_intRegister_24 (by decide) (fun c2 => ?_) (fun c2 => ?_)
    · refine lv_iload_n hx hb dX4_intRegister_91 rfl (lv_at hl 4 rfl) ?_
      refine lv_bipush (v := (32 : Int32)) hx hb dX4_intRegister_92 (by decide) ?_
      refine lv_icmp_ne (tgt := 141) hx hb dX4_intRegister_94 (by decide) (fun c3 => ?_) (fun c3 => ?_)
      · refine lv_iconst (v := (-1 : Int32)) hx hb dX4_intRegister_141 (by decide) ?_
        have hF : f_X4_intRegister u p0 p1 p2 = ((-1 : Int32), u) := by unfold f_X4_intRegister; rw [if_neg c1, if_neg c2, if_neg c3]
        exact W.iret (v := (-1 : Int32)) hx hb hr (fun t ht hW => ⟨⟨(-1 : Int32), u, rfl, ⟨(congrArg Prod.fst hF).symm, (congrArg Prod.snd hF).symm⟩, by rw [ht]; exact hP, va_K.moved hW.alike hK, hD⟩, hS.F ht⟩) hS.2.2 dX4_intRegister_142
      · refine lv_iload_n hx hb dX4_intRegister_97 rfl (lv_at hl 3 rfl) ?_
        refine lv_if_eq (tgt := 106) hx hb dX4_intRegister_98 (by decide) (fun c4 => ?_) (fun c4 => ?_)
        · refine lv_aload_n hx hb dX4_intRegister_106 rfl (lv_at hl 1 rfl) ?_
          refine lv_iload_n hx hb dX4_intRegister_107 rfl (lv_at hl 2 rfl) ?_
          refine lv_iload_n hx hb dX4_intRegister_108 rfl (lv_at hl 3 rfl) ?_
          refine lv_if_ne (tgt := 126) hx hb dX4_intRegister_109 (by decide) (fun c_ => absurd c4 c_) (fun _ => ?_)
          refine lv_aload_n hx hb dX4_intRegister_112 rfl (lv_at hl 1 rfl) ?_
          refine va_get (D := (dC, dI)) (ci := 1) (v := .long u.2.2.2.2.2.2.1) (C := RX4) (T := TX4) (N := 13) hx hb hts inX4 hown hK hP 0 rfl rfl 6 (by decide) (hts _ qw_287) (fun _ h9 => h9) rfl dX4_intRegister_113 ?_
          refine lv_aload_n hx hb dX4_intRegister_116 rfl (lv_at hl 1 rfl) ?_
          refine va_get (D := (dC, dI)) (ci := 1) (v := .long u.2.2.2.2.2.2.2.1) (C := RX4) (T := TX4) (N := 13) hx hb hts inX4 hown hK hP 0 rfl rfl 7 (by decide) (hts _ qw_288) (fun _ h9 => h9) rfl dX4_intRegister_117 ?_
          refine lv_lsub hx hb dX4_intRegister_120 ?_
          refine lv_l2i (v := (u.2.2.2.2.2.2.1 - u.2.2.2.2.2.2.2.1).toInt32) hx hb dX4_intRegister_121 rfl ?_
          refine lv_i2l (v := (u.2.2.2.2.2.2.1 - u.2.2.2.2.2.2.2.1).toInt32.toInt64) hx hb dX4_intRegister_122 rfl ?_
          refine lv_goto (tgt := 135) hx hb dX4_intRegister_123 (by decide) ?_
          refine wr_calli (wr := []) (va_runV (As := [.int p0, .long (u.2.2.2.2.2.2.1 - u.2.2.2.2.2.2.2.1).toInt32.toInt64]) (rest := []) ⟨hx, hb, hml, hown, hts⟩ (mt_X4_done_ l dC dI g0 g1 g2 cB cC s.heap.size u p0 (u.2.2.2.2.2.2.1 - u.2.2.2.2.2.2.2.1).toInt32.toInt64 hd) (cwV 2 hts gX4_106_X4_done_ rfl rfl rfl (by decide +kernel) ⟨Nat.le_of_ble_eq_true rfl, Nat.le_of_ble_eq_true rfl⟩) (wr_V hK hP hD (ci := 1) (q0 := 0) rfl rfl rfl) rfl rfl hl.1 rfl (lv_room (Nat.le_of_ble_eq_true rfl)) dX4_intRegister_135 ⟨Nat.le_of_ble_eq_true rfl, Nat.le_of_ble_eq_true rfl⟩) hS hP hD hA [0, 1, 2] [] rfl rfl (by decide) (by decide) (fun r_ v_ H locs hw hP hD hS => ?_)
          obtain ⟨rfl, rfl⟩ := hw
          refine W.eq (g2 := F0 m 138 ls [.int (f_X4_done_ u p0 (u.2.2.2.2.2.2.1 - u.2.2.2.2.2.2.2.1).toInt32.toInt64).1]) rfl ?_
          have hP : va_P (dC, dI) vwCl (Wm g0 g1 g2 cB cC (f_X4_done_ u p0 (u.2.2.2.2.2.2.1 - u.2.2.2.2.2.2.2.1).toInt32.toInt64).2) H := hP
          have hD : va_D A (Wm g0 g1 g2 cB cC (f_X4_done_ u p0 (u.2.2.2.2.2.2.1 - u.2.2.2.2.2.2.2.1).toInt32.toInt64).2) := hD
          refine lv_goto (tgt := 142) hx hb dX4_intRegister_138 (by decide) ?_
          have hF : f_X4_intRegister u p0 p1 p2 = ((f_X4_done_ u p0 (u.2.2.2.2.2.2.1 - u.2.2.2.2.2.2.2.1).toInt32.toInt64).1, (f_X4_done_ u p0 (u.2.2.2.2.2.2.1 - u.2.2.2.2.2.2.2.1).toInt32.toInt64).2) := by unfold f_X4_intRegister; rw [if_neg c1, if_neg c2, if_pos c3, if_pos c4]
          exact W.iret (v := (f_X4_done_ u p0 (u.2.2.2.2.2.2.1 - u.2.2.2.2.2.2.2.1).toInt32.toInt64).1) hx hb hr (fun t ht hW => ⟨⟨(f_X4_done_ u p0 (u.2.2.2.2.2.2.1 - u.2.2.2.2.2.2.2.1).toInt32.toInt64).1, (f_X4_done_ u p0 (u.2.2.2.2.2.2.1 - u.2.2.2.2.2.2.2.1).toInt32.toInt64).2, rfl, ⟨(congrArg Prod.fst hF).symm, (congrArg Prod.snd hF).symm⟩, by rw [ht]; exact hP, va_K.moved hW.alike hK, hD⟩, hS.F ht⟩) hS.2.2 dX4_intRegister_142
        · refine lv_iload_n hx hb dX4_intRegister_101 rfl (lv_at hl 3 rfl) ?_
          refine lv_iconst (v := (5 : Int32)) hx hb dX4_intRegister_102 (by decide) ?_
          refine lv_icmp_ne (tgt := 141) hx hb dX4_intRegister_103 (by decide) (fun c5 => ?_) (fun c5 => ?_)
          · refine lv_iconst (v := (-1 : Int32)) hx hb dX4_intRegister_141 (by decide) ?_
            have hF : f_X4_intRegister u p0 p1 p2 = ((-1 : Int32), u) := by unfold f_X4_intRegister; rw [if_neg c1, if_neg c2, if_pos c3, if_neg c4, if_neg c5]
            exact W.iret (v := (-1 : Int32)) hx hb hr (fun t ht hW => ⟨⟨(-1 : Int32), u, rfl, ⟨(congrArg Prod.fst hF).symm, (congrArg Prod.snd hF).symm⟩, by rw [ht]; exact hP, va_K.moved hW.alike hK, hD⟩, hS.F ht⟩) hS.2.2 dX4_intRegister_142
          · refine lv_aload_n hx hb dX4_intRegister_106 rfl (lv_at hl 1 rfl) ?_
            refine lv_iload_n hx hb dX4_intRegister_107 rfl (lv_at hl 2 rfl) ?_
            refine lv_iload_n hx hb dX4_intRegister_108 rfl (lv_at hl 3 rfl) ?_
            refine lv_if_ne (tgt := 126) hx hb dX4_intRegister_109 (by decide) (fun _ => ?_) (fun c_ => absurd c_ c4)
            refine lv_aload_n hx hb dX4_intRegister_126 rfl (lv_at hl 1 rfl) ?_
            refine va_get (D := (dC, dI)) (ci := 1) (v := .long u.2.2.2.2.2.2.1) (C := RX4) (T := TX4) (N := 13) hx hb hts inX4 hown hK hP 0 rfl rfl 6 (by decide) (hts _ qw_287) (fun _ h9 => h9) rfl dX4_intRegister_127 ?_
            refine lv_l2i (v := u.2.2.2.2.2.2.1.toInt32) hx hb dX4_intRegister_130 rfl ?_
            refine lv_iload hx hb dX4_intRegister_131 (lv_at hl 0 rfl) ?_
            refine lv_ishr hx hb dX4_intRegister_133 ?_
            refine lv_i2l (v := (u.2.2.2.2.2.2.1.toInt32 >>> ((u.2.2.2.2.2.2.2.1 &&& (31 : Int64)).toInt32 &&& 31)).toInt64) hx hb dX4_intRegister_134 rfl ?_
            refine wr_calli (wr := []) (va_runV (As := [.int p0, .long (u.2.2.2.2.2.2.1.toInt32 >>> ((u.2.2.2.2.2.2.2.1 &&& (31 : Int64)).toInt32 &&& 31)).toInt64]) (rest := []) ⟨hx, hb, hml, hown, hts⟩ (mt_X4_done_ l dC dI g0 g1 g2 cB cC s.heap.size u p0 (u.2.2.2.2.2.2.1.toInt32 >>> ((u.2.2.2.2.2.2.2.1 &&& (31 : Int64)).toInt32 &&& 31)).toInt64 hd) (cwV 2 hts gX4_106_X4_done_ rfl rfl rfl (by decide +kernel) ⟨Nat.le_of_ble_eq_true rfl, Nat.le_of_ble_eq_true rfl⟩) (wr_V hK hP hD (ci := 1) (q0 := 0) rfl rfl rfl) rfl rfl hl.1 rfl (lv_room (Nat.le_of_ble_eq_true rfl)) dX4_intRegister_135 ⟨Nat.le_of_ble_eq_true rfl, Nat.le_of_ble_eq_true rfl⟩) hS hP hD hA [0, 1, 2] [] rfl rfl (by decide) (by decide) (fun r_ v_ H locs hw hP hD hS => ?_)
            obtain ⟨rfl, rfl⟩ := hw
            refine W.eq (g2 := F0 m 138 ls [.int (f_X4_done_ u p0 (u.2.2.2.2.2.2.1.toInt32 >>> ((u.2.2.2.2.2.2.2.1 &&& (31 : Int64)).toInt32 &&& 31)).toInt64).1]) rfl ?_
            have hP : va_P (dC, dI) vwCl (Wm g0 g1 g2 cB cC (f_X4_done_ u p0 (u.2.2.2.2.2.2.1.toInt32 >>> ((u.2.2.2.2.2.2.2.1 &&& (31 : Int64)).toInt32 &&& 31)).toInt64).2) H := hP
            have hD : va_D A (Wm g0 g1 g2 cB cC (f_X4_done_ u p0 (u.2.2.2.2.2.2.1.toInt32 >>> ((u.2.2.2.2.2.2.2.1 &&& (31 : Int64)).toInt32 &&& 31)).toInt64).2) := hD
            refine lv_goto (tgt := 142) hx hb dX4_intRegister_138 (by decide) ?_
            have hF : f_X4_intRegister u p0 p1 p2 = ((f_X4_done_ u p0 (u.2.2.2.2.2.2.1.toInt32 >>> ((u.2.2.2.2.2.2.2.1 &&& (31 : Int64)).toInt32 &&& 31)).toInt64).1, (f_X4_done_ u p0 (u.2.2.2.2.2.2.1.toInt32 >>> ((u.2.2.2.2.2.2.2.1 &&& (31 : Int64)).toInt32 &&& 31)).toInt64).2) := by unfold f_X4_intRegister; rw [if_neg c1, if_neg c2, if_pos c3, if_neg c4, if_pos c5]
            exact W.iret (v := (f_X4_done_ u p0 (u.2.2.2.2.2.2.1.toInt32 >>> ((u.2.2.2.2.2.2.2.1 &&& (31 : Int64)).toInt32 &&& 31)).toInt64).1) hx hb hr (fun t ht hW => ⟨⟨(f_X4_done_ u p0 (u.2.2.2.2.2.2.1.toInt32 >>> ((u.2.2.2.2.2.2.2.1 &&& (31 : Int64)).toInt32 &&& 31)).toInt64).1, (f_X4_done_ u p0 (u.2.2.2.2.2.2.1.toInt32 >>> ((u.2.2.2.2.2.2.2.1 &&& (31 : Int64)).toInt32 &&& 31)).toInt64).2, rfl, ⟨(congrArg Prod.fst hF).symm, (congrArg Prod.snd hF).symm⟩, by rw [ht]; exact hP, va_K.moved hW.alike hK, hD⟩, hS.F ht⟩) hS.2.2 dX4_intRegister_142
    · refine lv_iload_n hx hb dX4_intRegister_27 rfl (lv_at hl 3 rfl) ?_
      refine lv_if_eq (tgt := 41) hx hb dX4_intRegister_28 (by decide) (fun c6 => ?_) (fun c6 => ?_)
      · refine lv_aload_n hx hb dX4_intRegister_41 rfl (lv_at hl 1 rfl) ?_
        refine lv_iload_n hx hb dX4_intRegister_42 rfl (lv_at hl 2 rfl) ?_
        refine lv_iload_n hx hb dX4_intRegister_43 rfl (lv_at hl 3 rfl) ?_
        refine lv_if_ne (tgt := 61) hx hb dX4_intRegister_44 (by decide) (fun c_ => absurd c6 c_) (fun _ => ?_)
        refine lv_aload_n hx hb dX4_intRegister_47 rfl (lv_at hl 1 rfl) ?_
        refine va_get (D := (dC, dI)) (ci := 1) (v := .long u.2.2.2.2.2.2.1) (C := RX4) (T := TX4) (N := 13) hx hb hts inX4 hown hK hP 0 rfl rfl 6 (by decide) (hts _ qw_287) (fun _ h9 => h9) rfl dX4_intRegister_48 ?_
        refine lv_aload_n hx hb dX4_intRegister_51 rfl (lv_at hl 1 rfl) ?_
        refine va_get (D := (dC, dI)) (ci := 1) (v := .long u.2.2.2.2.2.2.2.1) (C := RX4) (T := TX4) (N := 13) hx hb hts inX4 hown hK hP 0 rfl rfl 7 (by decide) (hts _ qw_288) (fun _ h9 => h9) rfl dX4_intRegister_52 ?_
        refine lv_ladd hx hb dX4_intRegister_55 ?_
        refine lv_l2i (v := (u.2.2.2.2.2.2.1 + u.2.2.2.2.2.2.2.1).toInt32) hx hb dX4_intRegister_56 rfl ?_
        refine lv_i2l (v := (u.2.2.2.2.2.2.1 + u.2.2.2.2.2.2.2.1).toInt32.toInt64) hx hb dX4_intRegister_57 rfl ?_
        refine lv_goto (tgt := 87) hx hb dX4_intRegister_58 (by decide) ?_
        refine wr_calli (wr := []) (va_runV (As := [.int p0, .long (u.2.2.2.2.2.2.1 + u.2.2.2.2.2.2.2.1).toInt32.toInt64]) (rest := []) ⟨hx, hb, hml, hown, hts⟩ (mt_X4_done_ l dC dI g0 g1 g2 cB cC s.heap.size u p0 (u.2.2.2.2.2.2.1 + u.2.2.2.2.2.2.2.1).toInt32.toInt64 hd) (cwV 2 hts gX4_106_X4_done_ rfl rfl rfl (by decide +kernel) ⟨Nat.le_of_ble_eq_true rfl, Nat.le_of_ble_eq_true rfl⟩) (wr_V hK hP hD (ci := 1) (q0 := 0) rfl rfl rfl) rfl rfl hl.1 rfl (lv_room (Nat.le_of_ble_eq_true rfl)) dX4_intRegister_87 ⟨Nat.le_of_ble_eq_true rfl, Nat.le_of_ble_eq_true rfl⟩) hS hP hD hA [0, 1, 2] [] rfl rfl (by decide) (by decide) (fun r_ v_ H locs hw hP hD hS => ?_)
        obtain ⟨rfl, rfl⟩ := hw
        refine W.eq (g2 := F0 m 90 ls [.int (f_X4_done_ u p0 (u.2.2.2.2.2.2.1 + u.2.2.2.2.2.2.2.1).toInt32.toInt64).1]) rfl ?_
        have hP : va_P (dC, dI) vwCl (Wm g0 g1 g2 cB cC (f_X4_done_ u p0 (u.2.2.2.2.2.2.1 + u.2.2.2.2.2.2.2.1).toInt32.toInt64).2) H := hP
        have hD : va_D A (Wm g0 g1 g2 cB cC (f_X4_done_ u p0 (u.2.2.2.2.2.2.1 + u.2.2.2.2.2.2.2.1).toInt32.toInt64).2) := hD
        have hF : f_X4_intRegister u p0 p1 p2 = ((f_X4_done_ u p0 (u.2.2.2.2.2.2.1 + u.2.2.2.2.2.2.2.1).toInt32.toInt64).1, (f_X4_done_ u p0 (u.2.2.2.2.2.2.1 + u.2.2.2.2.2.2.2.1).toInt32.toInt64).2) := by unfold f_X4_intRegister; rw [if_neg c1, if_pos c2, if_pos c6]
        exact W.iret (v := (f_X4_done_ u p0 (u.2.2.2.2.2.2.1 + u.2.2.2.2.2.2.2.1).toInt32.toInt64).1) hx hb hr (fun t ht hW => ⟨⟨(f_X4_done_ u p0 (u.2.2.2.2.2.2.1 + u.2.2.2.2.2.2.2.1).toInt32.toInt64).1, (f_X4_done_ u p0 (u.2.2.2.2.2.2.1 + u.2.2.2.2.2.2.2.1).toInt32.toInt64).2, rfl, ⟨(congrArg Prod.fst hF).symm, (congrArg Prod.snd hF).symm⟩, by rw [ht]; exact hP, va_K.moved hW.alike hK, hD⟩, hS.F ht⟩) hS.2.2 dX4_intRegister_90
      · refine lv_iload_n hx hb dX4_intRegister_31 rfl (lv_at hl 3 rfl) ?_
        refine lv_iconst (v := (1 : Int32)) hx hb dX4_intRegister_32 (by decide) ?_
        refine lv_icmp_eq (tgt := 41) hx hb dX4_intRegister_33 (by decide) (fun c7 => ?_) (fun c7 => ?_)
        · refine lv_aload_n hx hb dX4_intRegister_41 rfl (lv_at hl 1 rfl) ?_
          refine lv_iload_n hx hb dX4_intRegister_42 rfl (lv_at hl 2 rfl) ?_
          refine lv_iload_n hx hb dX4_intRegister_43 rfl (lv_at hl 3 rfl) ?_
          refine lv_if_ne (tgt := 61) hx hb dX4_intRegister_44 (by decide) (fun _ => ?_) (fun c_ => absurd c_ c6)
          refine lv_iload_n hx hb dX4_intRegister_61 rfl (lv_at hl 3 rfl) ?_
          refine lv_iconst (v := (1 : Int32)) hx hb dX4_intRegister_62 (by decide) ?_
          refine lv_icmp_ne (tgt := 78) hx hb dX4_intRegister_63 (by decide) (fun c_ => absurd c7 c_) (fun _ => ?_)
          refine lv_aload_n hx hb dX4_intRegister_66 rfl (lv_at hl 1 rfl) ?_
          refine va_get (D := (dC, dI)) (ci := 1) (v := .long u.2.2.2.2.2.2.1) (C := RX4) (T := TX4) (N := 13) hx hb hts inX4 hown hK hP 0 rfl rfl 6 (by decide) (hts _ qw_287) (fun _ h9 => h9) rfl dX4_intRegister_67 ?_
          refine lv_l2i (v := u.2.2.2.2.2.2.1.toInt32) hx hb dX4_intRegister_70 rfl ?_
          refine lv_iload hx hb dX4_intRegister_71 (lv_at hl 0 rfl) ?_
          refine lv_ishl hx hb dX4_intRegister_73 ?_
          refine lv_i2l (v := (u.2.2.2.2.2.2.1.toInt32 <<< ((u.2.2.2.2.2.2.2.1 &&& (31 : Int64)).toInt32 &&& 31)).toInt64) hx hb dX4_intRegister_74 rfl ?_
          refine lv_goto (tgt := 87) hx hb dX4_intRegister_75 (by decide) ?_
          refine wr_calli (wr := []) (va_runV (As := [.int p0, .long (u.2.2.2.2.2.2.1.toInt32 <<< ((u.2.2.2.2.2.2.2.1 &&& (31 : Int64)).toInt32 &&& 31)).toInt64]) (rest := []) ⟨hx, hb, hml, hown, hts⟩ (mt_X4_done_ l dC dI g0 g1 g2 cB cC s.heap.size u p0 (u.2.2.2.2.2.2.1.toInt32 <<< ((u.2.2.2.2.2.2.2.1 &&& (31 : Int64)).toInt32 &&& 31)).toInt64 hd) (cwV 2 hts gX4_106_X4_done_ rfl rfl rfl (by decide +kernel) ⟨Nat.le_of_ble_eq_true rfl, Nat.le_of_ble_eq_true rfl⟩) (wr_V hK hP hD (ci := 1) (q0 := 0) rfl rfl rfl) rfl rfl hl.1 rfl (lv_room (Nat.le_of_ble_eq_true rfl)) dX4_intRegister_87 ⟨Nat.le_of_ble_eq_true rfl, Nat.le_of_ble_eq_true rfl⟩) hS hP hD hA [0, 1, 2] [] rfl rfl (by decide) (by decide) (fun r_ v_ H locs hw hP hD hS => ?_)
          obtain ⟨rfl, rfl⟩ := hw
          refine W.eq (g2 := F0 m 90 ls [.int (f_X4_done_ u p0 (u.2.2.2.2.2.2.1.toInt32 <<< ((u.2.2.2.2.2.2.2.1 &&& (31 : Int64)).toInt32 &&& 31)).toInt64).1]) rfl ?_
          have hP : va_P (dC, dI) vwCl (Wm g0 g1 g2 cB cC (f_X4_done_ u p0 (u.2.2.2.2.2.2.1.toInt32 <<< ((u.2.2.2.2.2.2.2.1 &&& (31 : Int64)).toInt32 &&& 31)).toInt64).2) H := hP
          have hD : va_D A (Wm g0 g1 g2 cB cC (f_X4_done_ u p0 (u.2.2.2.2.2.2.1.toInt32 <<< ((u.2.2.2.2.2.2.2.1 &&& (31 : Int64)).toInt32 &&& 31)).toInt64).2) := hD
          have hF : f_X4_intRegister u p0 p1 p2 = ((f_X4_done_ u p0 (u.2.2.2.2.2.2.1.toInt32 <<< ((u.2.2.2.2.2.2.2.1 &&& (31 : Int64)).toInt32 &&& 31)).toInt64).1, (f_X4_done_ u p0 (u.2.2.2.2.2.2.1.toInt32 <<< ((u.2.2.2.2.2.2.2.1 &&& (31 : Int64)).toInt32 &&& 31)).toInt64).2) := by unfold f_X4_intRegister; rw [if_neg c1, if_pos c2, if_neg c6, if_pos c7]
          exact W.iret (v := (f_X4_done_ u p0 (u.2.2.2.2.2.2.1.toInt32 <<< ((u.2.2.2.2.2.2.2.1 &&& (31 : Int64)).toInt32 &&& 31)).toInt64).1) hx hb hr (fun t ht hW => ⟨⟨(f_X4_done_ u p0 (u.2.2.2.2.2.2.1.toInt32 <<< ((u.2.2.2.2.2.2.2.1 &&& (31 : Int64)).toInt32 &&& 31)).toInt64).1, (f_X4_done_ u p0 (u.2.2.2.2.2.2.1.toInt32 <<< ((u.2.2.2.2.2.2.2.1 &&& (31 : Int64)).toInt32 &&& 31)).toInt64).2, rfl, ⟨(congrArg Prod.fst hF).symm, (congrArg Prod.snd hF).symm⟩, by rw [ht]; exact hP, va_K.moved hW.alike hK, hD⟩, hS.F ht⟩) hS.2.2 dX4_intRegister_90
        · refine lv_iload_n hx hb dX4_intRegister_36 rfl (lv_at hl 3 rfl) ?_
          refine lv_iconst (v := (5 : Int32)) hx hb dX4_intRegister_37 (by decide) ?_
          refine lv_icmp_ne (tgt := 91) hx hb dX4_intRegister_38 (by decide) (fun c8 => ?_) (fun c8 => ?_)
          · refine lv_iload_n hx hb dX4_intRegister_91 rfl (lv_at hl 4 rfl) ?_
            refine lv_bipush (v := (32 : Int32)) hx hb dX4_intRegister_92 (by decide) ?_
            refine lv_icmp_ne (tgt := 141) hx hb dX4_intRegister_94 (by decide) (fun c9 => ?_) (fun c9 => ?_)
            · refine lv_iconst (v := (-1 : Int32)) hx hb dX4_intRegister_141 (by decide) ?_
              have hF : f_X4_intRegister u p0 p1 p2 = ((-1 : Int32), u) := by unfold f_X4_intRegister; rw [if_neg c1, if_pos c2, if_neg c6, if_neg c7, if_neg c8, if_neg c9]
              exact W.iret (v := (-1 : Int32)) hx hb hr (fun t ht hW => ⟨⟨(-1 : Int32), u, rfl, ⟨(congrArg Prod.fst hF).symm, (congrArg Prod.snd hF).symm⟩, by rw [ht]; exact hP, va_K.moved hW.alike hK, hD⟩, hS.F ht⟩) hS.2.2 dX4_intRegister_142
            · refine lv_iload_n hx hb dX4_intRegister_97 rfl (lv_at hl 3 rfl) ?_
              refine lv_if_eq (tgt := 106) hx hb dX4_intRegister_98 (by decide) (fun c_ => absurd c_ c6) (fun _ => ?_)
              refine lv_iload_n hx hb dX4_intRegister_101 rfl (lv_at hl 3 rfl) ?_
              refine lv_iconst (v := (5 : Int32)) hx hb dX4_intRegister_102 (by decide) ?_
              refine lv_icmp_ne (tgt := 141) hx hb dX4_intRegister_103 (by decide) (fun _ => ?_) (fun c_ => absurd c_ c8)
              refine lv_iconst (v := (-1 : Int32)) hx hb dX4_intRegister_141 (by decide) ?_
              have hF : f_X4_intRegister u p0 p1 p2 = ((-1 : Int32), u) := by unfold f_X4_intRegister; rw [if_neg c1, if_pos c2, if_neg c6, if_neg c7, if_neg c8, if_pos c9]
              exact W.iret (v := (-1 : Int32)) hx hb hr (fun t ht hW => ⟨⟨(-1 : Int32), u, rfl, ⟨(congrArg Prod.fst hF).symm, (congrArg Prod.snd hF).symm⟩, by rw [ht]; exact hP, va_K.moved hW.alike hK, hD⟩, hS.F ht⟩) hS.2.2 dX4_intRegister_142
          · refine lv_aload_n hx hb dX4_intRegister_41 rfl (lv_at hl 1 rfl) ?_
            refine lv_iload_n hx hb dX4_intRegister_42 rfl (lv_at hl 2 rfl) ?_
            refine lv_iload_n hx hb dX4_intRegister_43 rfl (lv_at hl 3 rfl) ?_
            refine lv_if_ne (tgt := 61) hx hb dX4_intRegister_44 (by decide) (fun _ => ?_) (fun c_ => absurd c_ c6)
            refine lv_iload_n hx hb dX4_intRegister_61 rfl (lv_at hl 3 rfl) ?_
            refine lv_iconst (v := (1 : Int32)) hx hb dX4_intRegister_62 (by decide) ?_
            refine lv_icmp_ne (tgt := 78) hx hb dX4_intRegister_63 (by decide) (fun _ => ?_) (fun c_ => absurd c_ c7)
            refine lv_aload_n hx hb dX4_intRegister_78 rfl (lv_at hl 1 rfl) ?_
            refine va_get (D := (dC, dI)) (ci := 1) (v := .long u.2.2.2.2.2.2.1) (C := RX4) (T := TX4) (N := 13) hx hb hts inX4 hown hK hP 0 rfl rfl 6 (by decide) (hts _ qw_287) (fun _ h9 => h9) rfl dX4_intRegister_79 ?_
            refine lv_l2i (v := u.2.2.2.2.2.2.1.toInt32) hx hb dX4_intRegister_82 rfl ?_
            refine lv_iload hx hb dX4_intRegister_83 (lv_at hl 0 rfl) ?_
            refine lv_iushr (v := (j_iushr u.2.2.2.2.2.2.1.toInt32 (u.2.2.2.2.2.2.2.1 &&& (31 : Int64)).toInt32)) hx hb dX4_intRegister_85 rfl ?_
            refine lv_i2l (v := (j_iushr u.2.2.2.2.2.2.1.toInt32 (u.2.2.2.2.2.2.2.1 &&& (31 : Int64)).toInt32).toInt64) hx hb dX4_intRegister_86 rfl ?_
            refine wr_calli (wr := []) (va_runV (As := [.int p0, .long (j_iushr u.2.2.2.2.2.2.1.toInt32 (u.2.2.2.2.2.2.2.1 &&& (31 : Int64)).toInt32).toInt64]) (rest := []) ⟨hx, hb, hml, hown, hts⟩ (mt_X4_done_ l dC dI g0 g1 g2 cB cC s.heap.size u p0 (j_iushr u.2.2.2.2.2.2.1.toInt32 (u.2.2.2.2.2.2.2.1 &&& (31 : Int64)).toInt32).toInt64 hd) (cwV 2 hts gX4_106_X4_done_ rfl rfl rfl (by decide +kernel) ⟨Nat.le_of_ble_eq_true rfl, Nat.le_of_ble_eq_true rfl⟩) (wr_V hK hP hD (ci := 1) (q0 := 0) rfl rfl rfl) rfl rfl hl.1 rfl (lv_room (Nat.le_of_ble_eq_true rfl)) dX4_intRegister_87 ⟨Nat.le_of_ble_eq_true rfl, Nat.le_of_ble_eq_true rfl⟩) hS hP hD hA [0, 1, 2] [] rfl rfl (by decide) (by decide) (fun r_ v_ H locs hw hP hD hS => ?_)
            obtain ⟨rfl, rfl⟩ := hw
            refine W.eq (g2 := F0 m 90 ls [.int (f_X4_done_ u p0 (j_iushr u.2.2.2.2.2.2.1.toInt32 (u.2.2.2.2.2.2.2.1 &&& (31 : Int64)).toInt32).toInt64).1]) rfl ?_
            have hP : va_P (dC, dI) vwCl (Wm g0 g1 g2 cB cC (f_X4_done_ u p0 (j_iushr u.2.2.2.2.2.2.1.toInt32 (u.2.2.2.2.2.2.2.1 &&& (31 : Int64)).toInt32).toInt64).2) H := hP
            have hD : va_D A (Wm g0 g1 g2 cB cC (f_X4_done_ u p0 (j_iushr u.2.2.2.2.2.2.1.toInt32 (u.2.2.2.2.2.2.2.1 &&& (31 : Int64)).toInt32).toInt64).2) := hD
            have hF : f_X4_intRegister u p0 p1 p2 = ((f_X4_done_ u p0 (j_iushr u.2.2.2.2.2.2.1.toInt32 (u.2.2.2.2.2.2.2.1 &&& (31 : Int64)).toInt32).toInt64).1, (f_X4_done_ u p0 (j_iushr u.2.2.2.2.2.2.1.toInt32 (u.2.2.2.2.2.2.2.1 &&& (31 : Int64)).toInt32).toInt64).2) := by unfold f_X4_intRegister; rw [if_neg c1, if_pos c2, if_neg c6, if_neg c7, if_pos c8]
            exact W.iret (v := (f_X4_done_ u p0 (j_iushr u.2.2.2.2.2.2.1.toInt32 (u.2.2.2.2.2.2.2.1 &&& (31 : Int64)).toInt32).toInt64).1) hx hb hr (fun t ht hW => ⟨⟨(f_X4_done_ u p0 (j_iushr u.2.2.2.2.2.2.1.toInt32 (u.2.2.2.2.2.2.2.1 &&& (31 : Int64)).toInt32).toInt64).1, (f_X4_done_ u p0 (j_iushr u.2.2.2.2.2.2.1.toInt32 (u.2.2.2.2.2.2.2.1 &&& (31 : Int64)).toInt32).toInt64).2, rfl, ⟨(congrArg Prod.fst hF).symm, (congrArg Prod.snd hF).symm⟩, by rw [ht]; exact hP, va_K.moved hW.alike hK, hD⟩, hS.F ht⟩) hS.2.2 dX4_intRegister_90
  · refine lv_aload_n hx hb dX4_intRegister_16 rfl (lv_at hl 1 rfl) ?_
    refine lv_iload_n hx hb dX4_intRegister_17 rfl (lv_at hl 2 rfl) ?_
    refine lv_iload_n hx hb dX4_intRegister_18 rfl (lv_at hl 3 rfl) ?_
    refine wr_calli (wr := []) (va_runV (As := [.int p0, .int p1]) (rest := []) ⟨hx, hb, hml, hown, hts⟩ (mt_X4_intProduct l dC dI g0 g1 g2 cB cC s.heap.size u p0 p1 hd) (cwV 2 hts gX4_128_X4_intProduct rfl rfl rfl (by decide +kernel) ⟨Nat.le_of_ble_eq_true rfl, Nat.le_of_ble_eq_true rfl⟩) (wr_V hK hP hD (ci := 1) (q0 := 0) rfl rfl rfl) rfl rfl hl.1 rfl (lv_room (Nat.le_of_ble_eq_true rfl)) dX4_intRegister_19 ⟨Nat.le_of_ble_eq_true rfl, Nat.le_of_ble_eq_true rfl⟩) hS hP hD hA [0, 1, 2] [] rfl rfl (by decide) (by decide) (fun r_ v_ H locs hw hP hD hS => ?_)
    obtain ⟨rfl, rfl⟩ := hw
    refine W.eq (g2 := F0 m 22 ls [.int (f_X4_intProduct u p0 p1).1]) rfl ?_
    have hP : va_P (dC, dI) vwCl (Wm g0 g1 g2 cB cC (f_X4_intProduct u p0 p1).2) H := hP
    have hD : va_D A (Wm g0 g1 g2 cB cC (f_X4_intProduct u p0 p1).2) := hD
    have hF : f_X4_intRegister u p0 p1 p2 = ((f_X4_intProduct u p0 p1).1, (f_X4_intProduct u p0 p1).2) := by unfold f_X4_intRegister; rw [if_pos c1]
    exact W.iret (v := (f_X4_intProduct u p0 p1).1) hx hb hr (fun t ht hW => ⟨⟨(f_X4_intProduct u p0 p1).1, (f_X4_intProduct u p0 p1).2, rfl, ⟨(congrArg Prod.fst hF).symm, (congrArg Prod.snd hF).symm⟩, by rw [ht]; exact hP, va_K.moved hW.alike hK, hD⟩, hS.F ht⟩) hS.2.2 dX4_intRegister_22
