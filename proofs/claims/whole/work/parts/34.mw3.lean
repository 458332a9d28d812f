noncomputable def f_X4_divideAll (u : SmT) (p0 : Int64) (p1 : Int64) (p2 : Int32) : SmT :=
  if p1 = (0 : Int64) then
    (sm12 (sm11 u (-1 : Int64)) p0)
  else if p2 = 0 then
    if (0 : Int32) = (0 : Int32) then
      (sm12 (sm11 (f_X4_divide u p0 p1) (f_X4_divide u p0 p1).2.2.2.2.2.2.2.2.2.2.2.1) (f_X4_divide u p0 p1).2.2.2.2.2.2.2.2.2.2.2.2)
    else
      (sm12 (sm11 (f_X4_divide u p0 p1) (-(f_X4_divide u p0 p1).2.2.2.2.2.2.2.2.2.2.2.1)) (f_X4_divide u p0 p1).2.2.2.2.2.2.2.2.2.2.2.2)
  else if (0 : Int64) ≤ p0 then
    if (0 : Int64) ≤ p1 then
      if (0 : Int32) = (0 : Int32) then
        (sm12 (sm11 (f_X4_divide u p0 p1) (f_X4_divide u p0 p1).2.2.2.2.2.2.2.2.2.2.2.1) (f_X4_divide u p0 p1).2.2.2.2.2.2.2.2.2.2.2.2)
      else
        (sm12 (sm11 (f_X4_divide u p0 p1) (-(f_X4_divide u p0 p1).2.2.2.2.2.2.2.2.2.2.2.1)) (f_X4_divide u p0 p1).2.2.2.2.2.2.2.2.2.2.2.2)
    else if (0 : Int32) = (1 : Int32) then
      (sm12 (sm11 (f_X4_divide u p0 (-p1)) (f_X4_divide u p0 (-p1)).2.2.2.2.2.2.2.2.2.2.2.1) (f_X4_divide u p0 (-p1)).2.2.2.2.2.2.2.2.2.2.2.2)
    else
      (sm12 (sm11 (f_X4_divide u p0 (-p1)) (-(f_X4_divide u p0 (-p1)).2.2.2.2.2.2.2.2.2.2.2.1)) (f_X4_divide u p0 (-p1)).2.2.2.2.2.2.2.2.2.2.2.2)
  else if (0 : Int64) ≤ p1 then
    if (1 : Int32) = (0 : Int32) then
      (sm12 (sm11 (f_X4_divide u (-p0) p1) (f_X4_divide u (-p0) p1).2.2.2.2.2.2.2.2.2.2.2.1) (-(f_X4_divide u (-p0) p1).2.2.2.2.2.2.2.2.2.2.2.2))
    else
      (sm12 (sm11 (f_X4_divide u (-p0) p1) (-(f_X4_divide u (-p0) p1).2.2.2.2.2.2.2.2.2.2.2.1)) (-(f_X4_divide u (-p0) p1).2.2.2.2.2.2.2.2.2.2.2.2))
  else if (1 : Int32) = (1 : Int32) then
    (sm12 (sm11 (f_X4_divide u (-p0) (-p1)) (f_X4_divide u (-p0) (-p1)).2.2.2.2.2.2.2.2.2.2.2.1) (-(f_X4_divide u (-p0) (-p1)).2.2.2.2.2.2.2.2.2.2.2.2))
  else
    (sm12 (sm11 (f_X4_divide u (-p0) (-p1)) (-(f_X4_divide u (-p0) (-p1)).2.2.2.2.2.2.2.2.2.2.2.1)) (-(f_X4_divide u (-p0) (-p1)).2.2.2.2.2.2.2.2.2.2.2.2))
set_option maxHeartbeats 4000000 in
set_option maxRecDepth 100000 in
theorem mt_X4_divideAll (l : Launch) (dC : Nat → ClassId) (dI : Nat → Nat → Nat) (g0 g1 g2 : Nat) (cB cC : ClassId) (sz : Nat) (u : SmT) (p0 : Int64) (p1 : Int64) (p2 : Int32) : Met l yX4_divideAll wsX4_divideAll ({ frames := 2, cells := 0, slots := 0, locals := 49 }) (wr_P [.ref g0, .long p0, .long p1, .int p2] (dC, dI) vwCl (Wm g0 g1 g2 cB cC u) [(cB, .long), (cC, .long)] sz) (va_Qv (fun v => v = f_X4_divideAll u p0 p1 p2) (wr_B (dC, dI) vwCl [(cB, .long), (cC, .long)] (va_A (Wm g0 g1 g2 cB cC u) sz) (Wm g0 g1 g2 cB cC)) (va_A (Wm g0 g1 g2 cB cC u) sz)) 0 0 (va_A (Wm g0 g1 g2 cB cC u) sz) := by
  refine Met.ofW (cc := cX4_divideAll) (maxL := 8) (ret := none) (by decide) rfl ?_
  intro p e s m args below meth c s₁ B hml hv
  obtain ⟨rfl, hsz, hP, hK, hD0⟩ := hv
  have hx := B.exec
  have hb := B.bytes
  have hr := B.returns
  have hts0 := atoms_spec (ws := wsX4_divideAll) B.pre
  have hts := fun (w : Cond) (h : w ∈ lw_G) => hts0 w (List.mem_cons_of_mem _ h)
  have hown : s.vm.findClass RX4 = some m.cls := findClass_of_methodNamed B.named
  have hlocks := B.notSynchronized
  subst hsz
  have hD := hD0.self (sz := s.heap.size)
  generalize hAe : va_A (Wm g0 g1 g2 cB cC u) s.heap.size = A at hD ⊢
  have hA : ∀ q : Nat, s.heap.size ≤ q → A q := fun q h => by rw [← hAe]; exact Or.inr h
  have hS : va_S A s.heap s.heap [] := va_S.rf
  have hl := lv_entry ([.ref g0, .long p0, .long p1, .int p2]) (n := 8) (Nat.le_of_ble_eq_true rfl)
  rw [lg_entry_eq]
  generalize (lg_sl ([.ref g0, .long p0, .long p1, .int p2]) ++ List.replicate (8 - (lg_sl ([.ref g0, .long p0, .long p1, .int p2])).length) Slot.unset).toArray = ls at hl ⊢
  have hl : lv_has ls 8 [(0, .ref g0), (1, .long p0), (3, .long p1), (5, .int p2)] := hl
  refine lv_lload_n hx hb dX4_divideAll_0 rfl (lv_at hl 2 rfl) ?_
  refine lv_lconst (v := (0 : Int64)) hx hb dX4_divideAll_1 (by decide) ?_
  refine W.lcmp hx hb dX4_divideAll_2 ?_
  refine lv_if_ne (tgt := 19) hx hb dX4_divideAll_3 (by decide) (fun c1 => ?_) (fun c1 => ?_)
  · have c1 := mt (lg_cmp_eq p1 (0 : Int64)).mpr c1
    refine lv_iload hx hb dX4_divideAll_19 (lv_at hl 3 rfl) ?_
    refine lv_if_eq (tgt := 34) hx hb dX4_divideAll_21 (by decide) (fun c2 => ?_) (fun c2 => ?_)
    · refine lv_iconst (v := (0 : Int32)) hx hb dX4_divideAll_34 (by decide) ?_
      refine lv_istore (lv' := [(6, .int (0 : Int32)), (0, .ref g0), (1, .long p0), (3, .long p1), (5, .int p2)]) hx hb dX4_divideAll_35 hl (by decide) rfl (fun ls hl => ?_)
      refine lv_iload hx hb dX4_divideAll_37 (lv_at hl 4 rfl) ?_
      refine lv_if_eq (tgt := 52) hx hb dX4_divideAll_39 (by decide) (fun _ => ?_) (fun c_ => absurd c2 c_)
      refine lv_iconst (v := (0 : Int32)) hx hb dX4_divideAll_52 (by decide) ?_
      refine lv_istore (lv' := [(7, .int (0 : Int32)), (6, .int (0 : Int32)), (0, .ref g0), (1, .long p0), (3, .long p1), (5, .int p2)]) hx hb dX4_divideAll_53 hl (by decide) rfl (fun ls hl => ?_)
      refine lv_aload_n hx hb dX4_divideAll_55 rfl (lv_at hl 2 rfl) ?_
      refine lv_iload hx hb dX4_divideAll_56 (lv_at hl 1 rfl) ?_
      refine lv_if_eq (tgt := 66) hx hb dX4_divideAll_58 (by decide) (fun _ => ?_) (fun c_ => absurd c_ (by decide))
      refine lv_lload_n hx hb dX4_divideAll_66 rfl (lv_at hl 3 rfl) ?_
      refine lv_iload hx hb dX4_divideAll_67 (lv_at hl 0 rfl) ?_
      refine lv_if_eq (tgt := 77) hx hb dX4_divideAll_69 (by decide) (fun _ => ?_) (fun c_ => absurd c_ (by decide))
      refine lv_lload_n hx hb dX4_divideAll_77 rfl (lv_at hl 4 rfl) ?_
      refine wr_callv (wr := []) (va_runV (As := [.long p0, .long p1]) (rest := []) ⟨hx, hb, hml, hown, hts⟩ (mt_X4_divide l dC dI g0 g1 g2 cB cC s.heap.size u p0 p1) (cwV 2 hts gX4_71_X4_divide rfl rfl rfl (by decide +kernel) ⟨Nat.le_of_ble_eq_true rfl, Nat.le_of_ble_eq_true rfl⟩) (wr_V hK hP hD (ci := 1) (q0 := 0) rfl rfl rfl) rfl rfl hl.1 rfl (lv_room (Nat.le_of_ble_eq_true rfl)) dX4_divideAll_78 ⟨Nat.le_of_ble_eq_true rfl, Nat.le_of_ble_eq_true rfl⟩) hS hP hD hA [0, 1, 2] [] rfl rfl (by decide) (by decide) (fun v_ H locs hw hP hD hS => ?_)
      subst hw
      refine W.eq (g2 := F0 m 81 ls []) rfl ?_
      have hP : va_P (dC, dI) vwCl (Wm g0 g1 g2 cB cC (f_X4_divide u p0 p1)) H := hP
      have hD : va_D A (Wm g0 g1 g2 cB cC (f_X4_divide u p0 p1)) := hD
      refine lv_aload_n hx hb dX4_divideAll_81 rfl (lv_at hl 2 rfl) ?_
      refine lv_iload hx hb dX4_divideAll_82 (lv_at hl 1 rfl) ?_
      refine lv_iload hx hb dX4_divideAll_84 (lv_at hl 0 rfl) ?_
      refine lv_icmp_eq (tgt := 97) hx hb dX4_divideAll_86 (by decide) (fun c3 => ?_) (fun c3 => ?_)
      · refine lv_aload_n hx hb dX4_divideAll_97 rfl (lv_at hl 2 rfl) ?_
        refine va_get (D := (dC, dI)) (ci := 1) (v := .long (f_X4_divide u p0 p1).2.2.2.2.2.2.2.2.2.2.2.1) (C := RX4) (T := TX4) (N := 13) hx hb hts inX4 hown hK hP 0 rfl rfl 11 (by decide) (hts _ qw_257) (fun _ h9 => h9) rfl dX4_divideAll_98 ?_
        refine va_put (D := (dC, dI)) (ci := 1) (v := .long (f_X4_divide u p0 p1).2.2.2.2.2.2.2.2.2.2.2.1) (ty := .long) (C := RX4) (T := TX4) (N := 13) hx hb hts inX4 tyX4 tyX4_ok nmX4 hown hK hP hD hS 0 rfl rfl 11 (by decide) (hts _ qw_257) (fun _ h9 => h9) rfl (by decide +kernel) rfl rfl (Nat.le_of_ble_eq_true rfl) dX4_divideAll_101 (fun H locs hP hD hS => ?_)
        have hP : va_P (dC, dI) vwCl (Wm g0 g1 g2 cB cC (sm11 (f_X4_divide u p0 p1) (f_X4_divide u p0 p1).2.2.2.2.2.2.2.2.2.2.2.1)) H := hP
        have hD : va_D A (Wm g0 g1 g2 cB cC (sm11 (f_X4_divide u p0 p1) (f_X4_divide u p0 p1).2.2.2.2.2.2.2.2.2.2.2.1)) := hD
        refine lv_aload_n hx hb dX4_divideAll_104 rfl (lv_at hl 2 rfl) ?_
        refine lv_iload hx hb dX4_divideAll_105 (lv_at hl 1 rfl) ?_
        refine lv_if_eq (tgt := 118) hx hb dX4_divideAll_107 (by decide) (fun _ => ?_) (fun c_ => absurd c_ (by decide))
        refine lv_aload_n hx hb dX4_divideAll_118 rfl (lv_at hl 2 rfl) ?_
        refine va_get (D := (dC, dI)) (ci := 1) (v := .long (f_X4_divide u p0 p1).2.2.2.2.2.2.2.2.2.2.2.2) (C := RX4) (T := TX4) (N := 13) hx hb hts inX4 hown hK hP 0 rfl rfl 12 (by decide) (hts _ qw_256) (fun _ h9 => h9) rfl dX4_divideAll_119 ?_
        refine va_put (D := (dC, dI)) (ci := 1) (v := .long (f_X4_divide u p0 p1).2.2.2.2.2.2.2.2.2.2.2.2) (ty := .long) (C := RX4) (T := TX4) (N := 13) hx hb hts inX4 tyX4 tyX4_ok nmX4 hown hK hP hD hS 0 rfl rfl 12 (by decide) (hts _ qw_256) (fun _ h9 => h9) rfl (by decide +kernel) rfl rfl (Nat.le_of_ble_eq_true rfl) dX4_divideAll_122 (fun H locs hP hD hS => ?_)
        have hP : va_P (dC, dI) vwCl (Wm g0 g1 g2 cB cC (sm12 (sm11 (f_X4_divide u p0 p1) (f_X4_divide u p0 p1).2.2.2.2.2.2.2.2.2.2.2.1) (f_X4_divide u p0 p1).2.2.2.2.2.2.2.2.2.2.2.2)) H := hP
        have hD : va_D A (Wm g0 g1 g2 cB cC (sm12 (sm11 (f_X4_divide u p0 p1) (f_X4_divide u p0 p1).2.2.2.2.2.2.2.2.2.2.2.1) (f_X4_divide u p0 p1).2.2.2.2.2.2.2.2.2.2.2.2)) := hD
        have hF : f_X4_divideAll u p0 p1 p2 = (sm12 (sm11 (f_X4_divide u p0 p1) (f_X4_divide u p0 p1).2.2.2.2.2.2.2.2.2.2.2.1) (f_X4_divide u p0 p1).2.2.2.2.2.2.2.2.2.2.2.2) := by unfold f_X4_divideAll; rw [if_neg c1, if_pos c2, if_pos c3]
        exact W.vret hx hb hr (fun t ht hW => ⟨⟨(sm12 (sm11 (f_X4_divide u p0 p1) (f_X4_divide u p0 p1).2.2.2.2.2.2.2.2.2.2.2.1) (f_X4_divide u p0 p1).2.2.2.2.2.2.2.2.2.2.2.2), rfl, hF.symm, by rw [ht]; exact hP, va_K.moved hW.alike hK, hD⟩, hS.F ht⟩) hS.2.2 dX4_divideAll_125
      · refine lv_aload_n hx hb dX4_divideAll_89 rfl (lv_at hl 2 rfl) ?_
        refine va_get (D := (dC, dI)) (ci := 1) (v := .long (f_X4_divide u p0 p1).2.2.2.2.2.2.2.2.2.2.2.1) (C := RX4) (T := TX4) (N := 13) hx hb hts inX4 hown hK hP 0 rfl rfl 11 (by decide) (hts _ qw_257) (fun _ h9 => h9) rfl dX4_divideAll_90 ?_
        refine lv_lneg hx hb dX4_divideAll_93 ?_
        refine lv_goto (tgt := 101) hx hb dX4_divideAll_94 (by decide) ?_
        refine va_put (D := (dC, dI)) (ci := 1) (v := .long (-(f_X4_divide u p0 p1).2.2.2.2.2.2.2.2.2.2.2.1)) (ty := .long) (C := RX4) (T := TX4) (N := 13) hx hb hts inX4 tyX4 tyX4_ok nmX4 hown hK hP hD hS 0 rfl rfl 11 (by decide) (hts _ qw_257) (fun _ h9 => h9) rfl (by decide +kernel) rfl rfl (Nat.le_of_ble_eq_true rfl) dX4_divideAll_101 (fun H locs hP hD hS => ?_)
        have hP : va_P (dC, dI) vwCl (Wm g0 g1 g2 cB cC (sm11 (f_X4_divide u p0 p1) (-(f_X4_divide u p0 p1).2.2.2.2.2.2.2.2.2.2.2.1))) H := hP
        have hD : va_D A (Wm g0 g1 g2 cB cC (sm11 (f_X4_divide u p0 p1) (-(f_X4_divide u p0 p1).2.2.2.2.2.2.2.2.2.2.2.1))) := hD
        refine lv_aload_n hx hb dX4_divideAll_104 rfl (lv_at hl 2 rfl) ?_
        refine lv_iload hx hb dX4_divideAll_105 (lv_at hl 1 rfl) ?_
        refine lv_if_eq (tgt := 118) hx hb dX4_divideAll_107 (by decide) (fun _ => ?_) (fun c_ => absurd c_ (by decide))
        refine lv_aload_n hx hb dX4_divideAll_118 rfl (lv_at hl 2 rfl) ?_
        refine va_get (D := (dC, dI)) (ci := 1) (v := .long (f_X4_divide u p0 p1).2.2.2.2.2.2.2.2.2.2.2.2) (C := RX4) (T := TX4) (N := 13) hx hb hts inX4 hown hK hP 0 rfl rfl 12 (by decide) (hts _ qw_256) (fun _ h9 => h9) rfl dX4_divideAll_119 ?_
        refine va_put (D := (dC, dI)) (ci := 1) (v := .long (f_X4_divide u p0 p1).2.2.2.2.2.2.2.2.2.2.2.2) (ty := .long) (C := RX4) (T := TX4) (N := 13) hx hb hts inX4 tyX4 tyX4_ok nmX4 hown hK hP hD hS 0 rfl rfl 12 (by decide) (hts _ qw_256) (fun _ h9 => h9) rfl (by decide +kernel) rfl rfl (Nat.le_of_ble_eq_true rfl) dX4_divideAll_122 (fun H locs hP hD hS => ?_)
        have hP : va_P (dC, dI) vwCl (Wm g0 g1 g2 cB cC (sm12 (sm11 (f_X4_divide u p0 p1) (-(f_X4_divide u p0 p1).2.2.2.2.2.2.2.2.2.2.2.1)) (f_X4_divide u p0 p1).2.2.2.2.2.2.2.2.2.2.2.2)) H := hP
        have hD : va_D A (Wm g0 g1 g2 cB cC (sm12 (sm11 (f_X4_divide u p0 p1) (-(f_X4_divide u p0 p1).2.2.2.2.2.2.2.2.2.2.2.1)) (f_X4_divide u p0 p1).2.2.2.2.2.2.2.2.2.2.2.2)) := hD
        have hF : f_X4_divideAll u p0 p1 p2 = (sm12 (sm11 (f_X4_divide u p0 p1) (-(f_X4_divide u p0 p1).2.2.2.2.2.2.2.2.2.2.2.1)) (f_X4_divide u p0 p1).2.2.2.2.2.2.2.2.2.2.2.2) := by unfold f_X4_divideAll; rw [if_neg c1, if_pos c2, if_neg c3]
        exact W.vret hx hb hr (fun t ht hW => ⟨⟨(sm12 (sm11 (f_X4_divide u p0 p1) (-(f_X4_divide u p0 p1).2.2.2.2.2.2.2.2.2.2.2.1)) (f_X4_divide u p0 p1).2.2.2.2.2.2.2.2.2.2.2.2), rfl, hF.symm, by rw [ht]; exact hP, va_K.moved hW.alike hK, hD⟩, hS.F ht⟩) hS.2.2 dX4_divideAll_125
    · refine lv_lload_n hx hb dX4_divideAll_24 rfl (lv_at hl 1 rfl) ?_
      refine lv_lconst (v := (0 : Int64)) hx hb dX4_divideAll_25 (by decide) ?_
      refine W.lcmp hx hb dX4_divideAll_26 ?_
      refine lv_if_ge (tgt := 34) hx hb dX4_divideAll_27 (by decide) (fun c4 => ?_) (fun c4 => ?_)
      · have c4 := (lg_cmp_ge p0 (0 : Int64)).mp c4
        refine lv_iconst (v := (0 : Int32)) hx hb dX4_divideAll_34 (by decide) ?_
        refine lv_istore (lv' := [(6, .int (0 : Int32)), (0, .ref g0), (1, .long p0), (3, .long p1), (5, .int p2)]) hx hb dX4_divideAll_35 hl (by decide) rfl (fun ls hl => ?_)
        refine lv_iload hx hb dX4_divideAll_37 (lv_at hl 4 rfl) ?_
        refine lv_if_eq (tgt := 52) hx hb dX4_divideAll_39 (by decide) (fun c_ => absurd c_ c2) (fun _ => ?_)
        refine lv_lload_n hx hb dX4_divideAll_42 rfl (lv_at hl 3 rfl) ?_
        refine lv_lconst (v := (0 : Int64)) hx hb dX4_divideAll_43 (by decide) ?_
        refine W.lcmp hx hb dX4_divideAll_44 ?_
        refine lv_if_ge (tgt := 52) hx hb dX4_divideAll_45 (by decide) (fun c5 => ?_) (fun c5 => ?_)
        · have c5 := (lg_cmp_ge p1 (0 : Int64)).mp c5
          refine lv_iconst (v := (0 : Int32)) hx hb dX4_divideAll_52 (by decide) ?_
          refine lv_istore (lv' := [(7, .int (0 : Int32)), (6, .int (0 : Int32)), (0, .ref g0), (1, .long p0), (3, .long p1), (5, .int p2)]) hx hb dX4_divideAll_53 hl (by decide) rfl (fun ls hl => ?_)
          refine lv_aload_n hx hb dX4_divideAll_55 rfl (lv_at hl 2 rfl) ?_
          refine lv_iload hx hb dX4_divideAll_56 (lv_at hl 1 rfl) ?_
          refine lv_if_eq (tgt := 66) hx hb dX4_divideAll_58 (by decide) (fun _ => ?_) (fun c_ => absurd c_ (by decide))
          refine lv_lload_n hx hb dX4_divideAll_66 rfl (lv_at hl 3 rfl) ?_
          refine lv_iload hx hb dX4_divideAll_67 (lv_at hl 0 rfl) ?_
          refine lv_if_eq (tgt := 77) hx hb dX4_divideAll_69 (by decide) (fun _ => ?_) (fun c_ => absurd c_ (by decide))
          refine lv_lload_n hx hb dX4_divideAll_77 rfl (lv_at hl 4 rfl) ?_
          refine wr_callv (wr := []) (va_runV (As := [.long p0, .long p1]) (rest := []) ⟨hx, hb, hml, hown, hts⟩ (mt_X4_divide l dC dI g0 g1 g2 cB cC s.heap.size u p0 p1) (cwV 2 hts gX4_71_X4_divide rfl rfl rfl (by decide +kernel) ⟨Nat.le_of_ble_eq_true rfl, Nat.le_of_ble_eq_true rfl⟩) (wr_V hK hP hD (ci := 1) (q0 := 0) rfl rfl rfl) rfl rfl hl.1 rfl (lv_room (Nat.le_of_ble_eq_true rfl)) dX4_divideAll_78 ⟨Nat.le_of_ble_eq_true rfl, Nat.le_of_ble_eq_true rfl⟩) hS hP hD hA [0, 1, 2] [] rfl rfl (by decide) (by decide) (fun v_ H locs hw hP hD hS => ?_)
          subst hw
          refine W.eq (g2 := F0 m 81 ls []) rfl ?_
          have hP : va_P (dC, dI) vwCl (Wm g0 g1 g2 cB cC (f_X4_divide u p0 p1)) H := hP
          have hD : va_D A (Wm g0 g1 g2 cB cC (f_X4_divide u p0 p1)) := hD
          refine lv_aload_n hx hb dX4_divideAll_81 rfl (lv_at hl 2 rfl) ?_
          refine lv_iload hx hb dX4_divideAll_82 (lv_at hl 1 rfl) ?_
          refine lv_iload hx hb dX4_divideAll_84 (lv_at hl 0 rfl) ?_
          refine lv_icmp_eq (tgt := 97) hx hb dX4_divideAll_86 (by decide) (fun c6 => ?_) (fun c6 => ?_)
          · refine lv_aload_n hx hb dX4_divideAll_97 rfl (lv_at hl 2 rfl) ?_
            refine va_get (D := (dC, dI)) (ci := 1) (v := .long (f_X4_divide u p0 p1).2.2.2.2.2.2.2.2.2.2.2.1) (C := RX4) (T := TX4) (N := 13) hx hb hts inX4 hown hK hP 0 rfl rfl 11 (by decide) (hts _ qw_257) (fun _ h9 => h9) rfl dX4_divideAll_98 ?_
            refine va_put (D := (dC, dI)) (ci := 1) (v := .long (f_X4_divide u p0 p1).2.2.2.2.2.2.2.2.2.2.2.1) (ty := .long) (C := RX4) (T := TX4) (N := 13) hx hb hts inX4 tyX4 tyX4_ok nmX4 hown hK hP hD hS 0 rfl rfl 11 (by decide) (hts _ qw_257) (fun _ h9 => h9) rfl (by decide +kernel) rfl rfl (Nat.le_of_ble_eq_true rfl) dX4_divideAll_101 (fun H locs hP hD hS => ?_)
            have hP : va_P (dC, dI) vwCl (Wm g0 g1 g2 cB cC (sm11 (f_X4_divide u p0 p1) (f_X4_divide u p0 p1).2.2.2.2.2.2.2.2.2.2.2.1)) H := hP
            have hD : va_D A (Wm g0 g1 g2 cB cC (sm11 (f_X4_divide u p0 p1) (f_X4_divide u p0 p1).2.2.2.2.2.2.2.2.2.2.2.1)) := hD
            refine lv_aload_n hx hb dX4_divideAll_104 rfl (lv_at hl 2 rfl) ?_
            refine lv_iload hx hb dX4_divideAll_105 (lv_at hl 1 rfl) ?_
            refine lv_if_eq (tgt := 118) hx hb dX4_divideAll_107 (by decide) (fun _ => ?_) (fun c_ => absurd c_ (by decide))
            refine lv_aload_n hx hb dX4_divideAll_118 rfl (lv_at hl 2 rfl) ?_
            refine va_get (D := (dC, dI)) (ci := 1) (v := .long (f_X4_divide u p0 p1).2.2.2.2.2.2.2.2.2.2.2.2) (C := RX4) (T := TX4) (N := 13) hx hb hts inX4 hown hK hP 0 rfl rfl 12 (by decide) (hts _ qw_256) (fun _ h9 => h9) rfl dX4_divideAll_119 ?_
            refine va_put (D := (dC, dI)) (ci := 1) (v := .long (f_X4_divide u p0 p1).2.2.2.2.2.2.2.2.2.2.2.2) (ty := .long) (C := RX4) (T := TX4) (N := 13) hx hb hts inX4 tyX4 tyX4_ok nmX4 hown hK hP hD hS 0 rfl rfl 12 (by decide) (hts _ qw_256) (fun _ h9 => h9) rfl (by decide +kernel) rfl rfl (Nat.le_of_ble_eq_true rfl) dX4_divideAll_122 (fun H locs hP hD hS => ?_)
            have hP : va_P (dC, dI) vwCl (Wm g0 g1 g2 cB cC (sm12 (sm11 (f_X4_divide u p0 p1) (f_X4_divide u p0 p1).2.2.2.2.2.2.2.2.2.2.2.1) (f_X4_divide u p0 p1).2.2.2.2.2.2.2.2.2.2.2.2)) H := hP
            have hD : va_D A (Wm g0 g1 g2 cB cC (sm12 (sm11 (f_X4_divide u p0 p1) (f_X4_divide u p0 p1).2.2.2.2.2.2.2.2.2.2.2.1) (f_X4_divide u p0 p1).2.2.2.2.2.2.2.2.2.2.2.2)) := hD
            have hF : f_X4_divideAll u p0 p1 p2 = (sm12 (sm11 (f_X4_divide u p0 p1) (f_X4_divide u p0 p1).2.2.2.2.2.2.2.2.2.2.2.1) (f_X4_divide u p0 p1).2.2.2.2.2.2.2.2.2.2.2.2) := by unfold f_X4_divideAll; rw [if_neg c1, if_neg c2, if_pos c4, if_pos c5, if_pos c6]
            exact W.vret hx hb hr (fun t ht hW => ⟨⟨(sm12 (sm11 (f_X4_divide u p0 p1) (f_X4_divide u p0 p1).2.2.2.2.2.2.2.2.2.2.2.1) (f_X4_divide u p0 p1).2.2.2.2.2.2.2.2.2.2.2.2), rfl, hF.symm, by rw [ht]; exact hP, va_K.moved hW.alike hK, hD⟩, hS.F ht⟩) hS.2.2 dX4_divideAll_125
          · refine lv_aload_n hx hb dX4_divideAll_89 rfl (lv_at hl 2 rfl) ?_
            refine va_get (D := (dC, dI)) (ci := 1) (v := .long (f_X4_divide u p0 p1).2.2.2.2.2.2.2.2.2.2.2.1) (C := RX4) (T := TX4) (N := 13) hx hb hts inX4 hown hK hP 0 rfl rfl 11 (by decide) (hts _ qw_257) (fun _ h9 => h9) rfl dX4_divideAll_90 ?_
            refine lv_lneg hx hb dX4_divideAll_93 ?_
            refine lv_goto (tgt := 101) hx hb dX4_divideAll_94 (by decide) ?_
            refine va_put (D := (dC, dI)) (ci := 1) (v := .long (-(f_X4_divide u p0 p1).2.2.2.2.2.2.2.2.2.2.2.1)) (ty := .long) (C := RX4) (T := TX4) (N := 13) hx hb hts inX4 tyX4 tyX4_ok nmX4 hown hK hP hD hS 0 rfl rfl 11 (by decide) (hts _ qw_257) (fun _ h9 => h9) rfl (by decide +kernel) rfl rfl (Nat.le_of_ble_eq_true rfl) dX4_divideAll_101 (fun H locs hP hD hS => ?_)
            have hP : va_P (dC, dI) vwCl (Wm g0 g1 g2 cB cC (sm11 (f_X4_divide u p0 p1) (-(f_X4_divide u p0 p1).2.2.2.2.2.2.2.2.2.2.2.1))) H := hP
            have hD : va_D A (Wm g0 g1 g2 cB cC (sm11 (f_X4_divide u p0 p1) (-(f_X4_divide u p0 p1).2.2.2.2.2.2.2.2.2.2.2.1))) := hD
            refine lv_aload_n hx hb dX4_divideAll_104 rfl (lv_at hl 2 rfl) ?_
            refine lv_iload hx hb dX4_divideAll_105 (lv_at hl 1 rfl) ?_
            refine lv_if_eq (tgt := 118) hx hb dX4_divideAll_107 (by decide) (fun _ => ?_) (fun c_ => absurd c_ (by decide))
            refine lv_aload_n hx hb dX4_divideAll_118 rfl (lv_at hl 2 rfl) ?_
            refine va_get (D := (dC, dI)) (ci := 1) (v := .long (f_X4_divide u p0 p1).2.2.2.2.2.2.2.2.2.2.2.2) (C := RX4) (T := TX4) (N := 13) hx hb hts inX4 hown hK hP 0 rfl rfl 12 (by decide) (hts _ qw_256) (fun _ h9 => h9) rfl dX4_divideAll_119 ?_
            refine va_put (D := (dC, dI)) (ci := 1) (v := .long (f_X4_divide u p0 p1).2.2.2.2.2.2.2.2.2.2.2.2) (ty := .long) (C := RX4) (T := TX4) (N := 13) hx hb hts inX4 tyX4 tyX4_ok nmX4 hown hK hP hD hS 0 rfl rfl 12 (by decide) (hts _ qw_256) (fun _ h9 => h9) rfl (by decide +kernel) rfl rfl (Nat.le_of_ble_eq_true rfl) dX4_divideAll_122 (fun H locs hP hD hS => ?_)
            have hP : va_P (dC, dI) vwCl (Wm g0 g1 g2 cB cC (sm12 (sm11 (f_X4_divide u p0 p1) (-(f_X4_divide u p0 p1).2.2.2.2.2.2.2.2.2.2.2.1)) (f_X4_divide u p0 p1).2.2.2.2.2.2.2.2.2.2.2.2)) H := hP
            have hD : va_D A (Wm g0 g1 g2 cB cC (sm12 (sm11 (f_X4_divide u p0 p1) (-(f_X4_divide u p0 p1).2.2.2.2.2.2.2.2.2.2.2.1)) (f_X4_divide u p0 p1).2.2.2.2.2.2.2.2.2.2.2.2)) := hD
            have hF : f_X4_divideAll u p0 p1 p2 = (sm12 (sm11 (f_X4_divide u p0 p1) (-(f_X4_divide u p0 p1).2.2.2.2.2.2.2.2.2.2.2.1)) (f_X4_divide u p0 p1).2.2.2.2.2.2.2.2.2.2.2.2) := by unfold f_X4_divideAll; rw [if_neg c1, if_neg c2, if_pos c4, if_pos c5, if_neg c6]
            exact W.vret hx hb hr (fun t ht hW => ⟨⟨(sm12 (sm11 (f_X4_divide u p0 p1) (-(f_X4_divide u p0 p1).2.2.2.2.2.2.2.2.2.2.2.1)) (f_X4_divide u p0 p1).2.2.2.2.2.2.2.2.2.2.2.2), rfl, hF.symm, by rw [ht]; exact hP, va_K.moved hW.alike hK, hD⟩, hS.F ht⟩) hS.2.2 dX4_divideAll_125
        · have c5 := mt (lg_cmp_ge p1 (0 : Int64)).mpr c5
          refine lv_iconst (v := (1 : Int32)) hx hb dX4_divideAll_48 (by decide) ?_
          refine lv_goto (tgt := 53) hx hb dX4_divideAll_49 (by decide) ?_
          refine lv_istore (lv' := [(7, .int (1 : Int32)), (6, .int (0 : Int32)), (0, .ref g0), (1, .long p0), (3, .long p1), (5, .int p2)]) hx hb dX4_divideAll_53 hl (by decide) rfl (fun ls hl => ?_)
          refine lv_aload_n hx hb dX4_divideAll_55 rfl (lv_at hl 2 rfl) ?_
          refine lv_iload hx hb dX4_divideAll_56 (lv_at hl 1 rfl) ?_
          refine lv_if_eq (tgt := 66) hx hb dX4_divideAll_58 (by decide) (fun _ => ?_) (fun c_ => absurd c_ (by decide))
          refine lv_lload_n hx hb dX4_divideAll_66 rfl (lv_at hl 3 rfl) ?_
          refine lv_iload hx hb dX4_divideAll_67 (lv_at hl 0 rfl) ?_
          refine lv_if_eq (tgt := 77) hx hb dX4_divideAll_69 (by decide) (fun c_ => absurd c_ (by decide)) (fun _ => ?_)
          refine lv_lload_n hx hb dX4_divideAll_72 rfl (lv_at hl 4 rfl) ?_
          refine lv_lneg hx hb dX4_divideAll_73 ?_
          refine lv_goto (tgt := 78) hx hb dX4_divideAll_74 (by decide) ?_
          refine wr_callv (wr := []) (va_runV (As := [.long p0, .long (-p1)]) (rest := []) ⟨hx, hb, hml, hown, hts⟩ (mt_X4_divide l dC dI g0 g1 g2 cB cC s.heap.size u p0 (-p1)) (cwV 2 hts gX4_71_X4_divide rfl rfl rfl (by decide +kernel) ⟨Nat.le_of_ble_eq_true rfl, Nat.le_of_ble_eq_true rfl⟩) (wr_V hK hP hD (ci := 1) (q0 := 0) rfl rfl rfl) rfl rfl hl.1 rfl (lv_room (Nat.le_of_ble_eq_true rfl)) dX4_divideAll_78 ⟨Nat.le_of_ble_eq_true rfl, Nat.le_of_ble_eq_true rfl⟩) hS hP hD hA [0, 1, 2] [] rfl rfl (by decide) (by decide) (fun v_ H locs hw hP hD hS => ?_)
          subst hw
          refine W.eq (g2 := F0 m 81 ls []) rfl ?_
          have hP : va_P (dC, dI) vwCl (Wm g0 g1 g2 cB cC (f_X4_divide u p0 (-p1))) H := hP
          have hD : va_D A (Wm g0 g1 g2 cB cC (f_X4_divide u p0 (-p1))) := hD
          refine lv_aload_n hx hb dX4_divideAll_81 rfl (lv_at hl 2 rfl) ?_
          refine lv_iload hx hb dX4_divideAll_82 (lv_at hl 1 rfl) ?_
          refine lv_iload hx hb dX4_divideAll_84 (lv_at hl 0 rfl) ?_
          refine lv_icmp_eq (tgt := 97) hx hb dX4_divideAll_86 (by decide) (fun c7 => ?_) (fun c7 => ?_)
          · refine lv_aload_n hx hb dX4_divideAll_97 rfl (lv_at hl 2 rfl) ?_
            refine va_get (D := (dC, dI)) (ci := 1) (v := .long (f_X4_divide u p0 (-p1)).2.2.2.2.2.2.2.2.2.2.2.1) (C := RX4) (T := TX4) (N := 13) hx hb hts inX4 hown hK hP 0 rfl rfl 11 (by decide) (hts _ qw_257) (fun _ h9 => h9) rfl dX4_divideAll_98 ?_
            refine va_put (D := (dC, dI)) (ci := 1) (v := .long (f_X4_divide u p0 (-p1)).2.2.2.2.2.2.2.2.2.2.2.1) (ty := .long) (C := RX4) (T := TX4) (N := 13) hx hb hts inX4 tyX4 tyX4_ok nmX4 hown hK hP hD hS 0 rfl rfl 11 (by decide) (hts _ qw_257) (fun _ h9 => h9) rfl (by decide +kernel) rfl rfl (Nat.le_of_ble_eq_true rfl) dX4_divideAll_101 (fun H locs hP hD hS => ?_)
            have hP : va_P (dC, dI) vwCl (Wm g0 g1 g2 cB cC (sm11 (f_X4_divide u p0 (-p1)) (f_X4_divide u p0 (-p1)).2.2.2.2.2.2.2.2.2.2.2.1)) H := hP
            have hD : va_D A (Wm g0 g1 g2 cB cC (sm11 (f_X4_divide u p0 (-p1)) (f_X4_divide u p0 (-p1)).2.2.2.2.2.2.2.2.2.2.2.1)) := hD
            refine lv_aload_n hx hb dX4_divideAll_104 rfl (lv_at hl 2 rfl) ?_
            refine lv_iload hx hb dX4_divideAll_105 (lv_at hl 1 rfl) ?_
            refine lv_if_eq (tgt := 118) hx hb dX4_divideAll_107 (by decide) (fun _ => ?_) (fun c_ => absurd c_ (by decide))
            refine lv_aload_n hx hb dX4_divideAll_118 rfl (lv_at hl 2 rfl) ?_
            refine va_get (D := (dC, dI)) (ci := 1) (v := .long (f_X4_divide u p0 (-p1)).2.2.2.2.2.2.2.2.2.2.2.2) (C := RX4) (T := TX4) (N := 13) hx hb hts inX4 hown hK hP 0 rfl rfl 12 (by decide) (hts _ qw_256) (fun _ h9 => h9) rfl dX4_divideAll_119 ?_
            refine va_put (D := (dC, dI)) (ci := 1) (v := .long (f_X4_divide u p0 (-p1)).2.2.2.2.2.2.2.2.2.2.2.2) (ty := .long) (C := RX4) (T := TX4) (N := 13) hx hb hts inX4 tyX4 tyX4_ok nmX4 hown hK hP hD hS 0 rfl rfl 12 (by decide) (hts _ qw_256) (fun _ h9 => h9) rfl (by decide +kernel) rfl rfl (Nat.le_of_ble_eq_true rfl) dX4_divideAll_122 (fun H locs hP hD hS => ?_)
            have hP : va_P (dC, dI) vwCl (Wm g0 g1 g2 cB cC (sm12 (sm11 (f_X4_divide u p0 (-p1)) (f_X4_divide u p0 (-p1)).2.2.2.2.2.2.2.2.2.2.2.1) (f_X4_divide u p0 (-p1)).2.2.2.2.2.2.2.2.2.2.2.2)) H := hP
            have hD : va_D A (Wm g0 g1 g2 cB cC (sm12 (sm11 (f_X4_divide u p0 (-p1)) (f_X4_divide u p0 (-p1)).2.2.2.2.2.2.2.2.2.2.2.1) (f_X4_divide u p0 (-p1)).2.2.2.2.2.2.2.2.2.2.2.2)) := hD
            have hF : f_X4_divideAll u p0 p1 p2 = (sm12 (sm11 (f_X4_divide u p0 (-p1)) (f_X4_divide u p0 (-p1)).2.2.2.2.2.2.2.2.2.2.2.1) (f_X4_divide u p0 (-p1)).2.2.2.2.2.2.2.2.2.2.2.2) := by unfold f_X4_divideAll; rw [if_neg c1, if_neg c2, if_pos c4, if_neg c5, if_pos c7]
            exact W.vret hx hb hr (fun t ht hW => ⟨⟨(sm12 (sm11 (f_X4_divide u p0 (-p1)) (f_X4_divide u p0 (-p1)).2.2.2.2.2.2.2.2.2.2.2.1) (f_X4_divide u p0 (-p1)).2.2.2.2.2.2.2.2.2.2.2.2), rfl, hF.symm, by rw [ht]; exact hP, va_K.moved hW.alike hK, hD⟩, hS.F ht⟩) hS.2.2 dX4_divideAll_125
          · refine lv_aload_n hx hb dX4_divideAll_89 rfl (lv_at hl 2 rfl) ?_
            refine va_get (D := (dC, dI)) (ci := 1) (v := .long (f_X4_divide u p0 (-p1)).2.2.2.2.2.2.2.2.2.2.2.1) (C := RX4) (T := TX4) (N := 13) hx hb hts inX4 hown hK hP 0 rfl rfl 11 (by decide) (hts _ qw_257) (fun _ h9 => h9) rfl dX4_divideAll_90 ?_
            refine lv_lneg hx hb dX4_divideAll_93 ?_
            refine lv_goto (tgt := 101) hx hb dX4_divideAll_94 (by decide) ?_
            refine va_put (D := (dC, dI)) (ci := 1) (v := .long (-(f_X4_divide u p0 (-p1)).2.2.2.2.2.2.2.2.2.2.2.1)) (ty := .long) (C := RX4) (T := TX4) (N := 13) hx hb hts inX4 tyX4 tyX4_ok nmX4 hown hK hP hD hS 0 rfl rfl 11 (by decide) (hts _ qw_257) (fun _ h9 => h9) rfl (by decide +kernel) rfl rfl (Nat.le_of_ble_eq_true rfl) dX4_divideAll_101 (fun H locs hP hD hS => ?_)
            have hP : va_P (dC, dI) vwCl (Wm g0 g1 g2 cB cC (sm11 (f_X4_divide u p0 (-p1)) (-(f_X4_divide u p0 (-p1)).2.2.2.2.2.2.2.2.2.2.2.1))) H := hP
            have hD : va_D A (Wm g0 g1 g2 cB cC (sm11 (f_X4_divide u p0 (-p1)) (-(f_X4_divide u p0 (-p1)).2.2.2.2.2.2.2.2.2.2.2.1))) := hD
            refine lv_aload_n hx hb dX4_divideAll_104 rfl (lv_at hl 2 rfl) ?_
            refine lv_iload hx hb dX4_divideAll_105 (lv_at hl 1 rfl) ?_
            refine lv_if_eq (tgt := 118) hx hb dX4_divideAll_107 (by decide) (fun _ => ?_) (fun c_ => absurd c_ (by decide))
            refine lv_aload_n hx hb dX4_divideAll_118 rfl (lv_at hl 2 rfl) ?_
            refine va_get (D := (dC, dI)) (ci := 1) (v := .long (f_X4_divide u p0 (-p1)).2.2.2.2.2.2.2.2.2.2.2.2) (C := RX4) (T := TX4) (N := 13) hx hb hts inX4 hown hK hP 0 rfl rfl 12 (by decide) (hts _ qw_256) (fun _ h9 => h9) rfl dX4_divideAll_119 ?_
            refine va_put (D := (dC, dI)) (ci := 1) (v := .long (f_X4_divide u p0 (-p1)).2.2.2.2.2.2.2.2.2.2.2.2) (ty := .long) (C := RX4) (T := TX4) (N := 13) hx hb hts inX4 tyX4 tyX4_ok nmX4 hown hK hP hD hS 0 rfl rfl 12 (by decide) (hts _ qw_256) (fun _ h9 => h9) rfl (by decide +kernel) rfl rfl (Nat.le_of_ble_eq_true rfl) dX4_divideAll_122 (fun H locs hP hD hS => ?_)
            have hP : va_P (dC, dI) vwCl (Wm g0 g1 g2 cB cC (sm12 (sm11 (f_X4_divide u p0 (-p1)) (-(f_X4_divide u p0 (-p1)).2.2.2.2.2.2.2.2.2.2.2.1)) (f_X4_divide u p0 (-p1)).2.2.2.2.2.2.2.2.2.2.2.2)) H := hP
            have hD : va_D A (Wm g0 g1 g2 cB cC (sm12 (sm11 (f_X4_divide u p0 (-p1)) (-(f_X4_divide u p0 (-p1)).2.2.2.2.2.2.2.2.2.2.2.1)) (f_X4_divide u p0 (-p1)).2.2.2.2.2.2.2.2.2.2.2.2)) := hD
            have hF : f_X4_divideAll u p0 p1 p2 = (sm12 (sm11 (f_X4_divide u p0 (-p1)) (-(f_X4_divide u p0 (-p1)).2.2.2.2.2.2.2.2.2.2.2.1)) (f_X4_divide u p0 (-p1)).2.2.2.2.2.2.2.2.2.2.2.2) := by unfold f_X4_divideAll; rw [if_neg c1, if_neg c2, if_pos c4, if_neg c5, if_neg c7]
            exact W.vret hx hb hr (fun t ht hW => ⟨⟨(sm12 (sm11 (f_X4_divide u p0 (-p1)) (-(f_X4_divide u p0 (-p1)).2.2.2.2.2.2.2.2.2.2.2.1)) (f_X4_divide u p0 (-p1)).2.2.2.2.2.2.2.2.2.2.2.2), rfl, hF.symm, by rw [ht]; exact hP, va_K.moved hW.alike hK, hD⟩, hS.F ht⟩) hS.2.2 dX4_divideAll_125
      · have c4 := mt (lg_cmp_ge p0 (0 : Int64)).mpr c4
        refine lv_iconst (v := (1 : Int32)) hx hb dX4_divideAll_30 (by decide) ?_
        refine lv_goto (tgt := 35) hx hb dX4_divideAll_31 (by decide) ?_
        refine lv_istore (lv' := [(6, .int (1 : Int32)), (0, .ref g0), (1, .long p0), (3, .long p1), (5, .int p2)]) hx hb dX4_divideAll_35 hl (by decide) rfl (fun ls hl => ?_)
        refine lv_iload hx hb dX4_divideAll_37 (lv_at hl 4 rfl) ?_
        refine lv_if_eq (tgt := 52) hx hb dX4_divideAll_39 (by decide) (fun c_ => absurd c_ c2) (fun _ => ?_)
        refine lv_lload_n hx hb dX4_divideAll_42 rfl (lv_at hl 3 rfl) ?_
        refine lv_lconst (v := (0 : Int64)) hx hb dX4_divideAll_43 (by decide) ?_
        refine W.lcmp hx hb dX4_divideAll_44 ?_
        refine lv_if_ge (tgt := 52) hx hb dX4_divideAll_45 (by decide) (fun c8 => ?_) (fun c8 => ?_)
        · have c8 := (lg_cmp_ge p1 (0 : Int64)).mp c8
          refine lv_iconst (v := (0 : Int32)) hx hb dX4_divideAll_52 (by decide) ?_
          refine lv_istore (lv' := [(7, .int (0 : Int32)), (6, .int (1 : Int32)), (0, .ref g0), (1, .long p0), (3, .long p1), (5, .int p2)]) hx hb dX4_divideAll_53 hl (by decide) rfl (fun ls hl => ?_)
          refine lv_aload_n hx hb dX4_divideAll_55 rfl (lv_at hl 2 rfl) ?_
          refine lv_iload hx hb dX4_divideAll_56 (lv_at hl 1 rfl) ?_
          refine lv_if_eq (tgt := 66) hx hb dX4_divideAll_58 (by decide) (fun c_ => absurd c_ (by decide)) (fun _ => ?_)
          refine lv_lload_n hx hb dX4_divideAll_61 rfl (lv_at hl 3 rfl) ?_
          refine lv_lneg hx hb dX4_divideAll_62 ?_
          refine lv_goto (tgt := 67) hx hb dX4_divideAll_63 (by decide) ?_
          refine lv_iload hx hb dX4_divideAll_67 (lv_at hl 0 rfl) ?_
          refine lv_if_eq (tgt := 77) hx hb dX4_divideAll_69 (by decide) (fun _ => ?_) (fun c_ => absurd c_ (by decide))
          refine lv_lload_n hx hb dX4_divideAll_77 rfl (lv_at hl 4 rfl) ?_
          refine wr_callv (wr := []) (va_runV (As := [.long (-p0), .long p1]) (rest := []) ⟨hx, hb, hml, hown, hts⟩ (mt_X4_divide l dC dI g0 g1 g2 cB cC s.heap.size u (-p0) p1) (cwV 2 hts gX4_71_X4_divide rfl rfl rfl (by decide +kernel) ⟨Nat.le_of_ble_eq_true rfl, Nat.le_of_ble_eq_true rfl⟩) (wr_V hK hP hD (ci := 1) (q0 := 0) rfl rfl rfl) rfl rfl hl.1 rfl (lv_room (Nat.le_of_ble_eq_true rfl)) dX4_divideAll_78 ⟨Nat.le_of_ble_eq_true rfl, Nat.le_of_ble_eq_true rfl⟩) hS hP hD hA [0, 1, 2] [] rfl rfl (by decide) (by decide) (fun v_ H locs hw hP hD hS => ?_)
          subst hw
          refine W.eq (g2 := F0 m 81 ls []) rfl ?_
          have hP : va_P (dC, dI) vwCl (Wm g0 g1 g2 cB cC (f_X4_divide u (-p0) p1)) H := hP
          have hD : va_D A (Wm g0 g1 g2 cB cC (f_X4_divide u (-p0) p1)) := hD
          refine lv_aload_n hx hb dX4_divideAll_81 rfl (lv_at hl 2 rfl) ?_
          refine lv_iload hx hb dX4_divideAll_82 (lv_at hl 1 rfl) ?_
          refine lv_iload hx hb dX4_divideAll_84 (lv_at hl 0 rfl) ?_
          refine lv_icmp_eq (tgt := 97) hx hb dX4_divideAll_86 (by decide) (fun c9 => ?_) (fun c9 => ?_)
          · refine lv_aload_n hx hb dX4_divideAll_97 rfl (lv_at hl 2 rfl) ?_
            refine va_get (D := (dC, dI)) (ci := 1) (v := .long (f_X4_divide u (-p0) p1).2.2.2.2.2.2.2.2.2.2.2.1) (C := RX4) (T := TX4) (N := 13) hx hb hts inX4 hown hK hP 0 rfl rfl 11 (by decide) (hts _ qw_257) (fun _ h9 => h9) rfl dX4_divideAll_98 ?_
            refine va_put (D := (dC, dI)) (ci := 1) (v := .long (f_X4_divide u (-p0) p1).2.2.2.2.2.2.2.2.2.2.2.1) (ty := .long) (C := RX4) (T := TX4) (N := 13) hx hb hts inX4 tyX4 tyX4_ok nmX4 hown hK hP hD hS 0 rfl rfl 11 (by decide) (hts _ qw_257) (fun _ h9 => h9) rfl (by decide +kernel) rfl rfl (Nat.le_of_ble_eq_true rfl) dX4_divideAll_101 (fun H locs hP hD hS => ?_)
            have hP : va_P (dC, dI) vwCl (Wm g0 g1 g2 cB cC (sm11 (f_X4_divide u (-p0) p1) (f_X4_divide u (-p0) p1).2.2.2.2.2.2.2.2.2.2.2.1)) H := hP
            have hD : va_D A (Wm g0 g1 g2 cB cC (sm11 (f_X4_divide u (-p0) p1) (f_X4_divide u (-p0) p1).2.2.2.2.2.2.2.2.2.2.2.1)) := hD
            refine lv_aload_n hx hb dX4_divideAll_104 rfl (lv_at hl 2 rfl) ?_
            refine lv_iload hx hb dX4_divideAll_105 (lv_at hl 1 rfl) ?_
            refine lv_if_eq (tgt := 118) hx hb dX4_divideAll_107 (by decide) (fun c_ => absurd c_ (by decide)) (fun _ => ?_)
            refine lv_aload_n hx hb dX4_divideAll_110 rfl (lv_at hl 2 rfl) ?_
            refine va_get (D := (dC, dI)) (ci := 1) (v := .long (f_X4_divide u (-p0) p1).2.2.2.2.2.2.2.2.2.2.2.2) (C := RX4) (T := TX4) (N := 13) hx hb hts inX4 hown hK hP 0 rfl rfl 12 (by decide) (hts _ qw_256) (fun _ h9 => h9) rfl dX4_divideAll_111 ?_
            refine lv_lneg hx hb dX4_divideAll_114 ?_
            refine lv_goto (tgt := 122) hx hb dX4_divideAll_115 (by decide) ?_
            refine va_put (D := (dC, dI)) (ci := 1) (v := .long (-(f_X4_divide u (-p0) p1).2.2.2.2.2.2.2.2.2.2.2.2)) (ty := .long) (C := RX4) (T := TX4) (N := 13) hx hb hts inX4 tyX4 tyX4_ok nmX4 hown hK hP hD hS 0 rfl rfl 12 (by decide) (hts _ qw_256) (fun _ h9 => h9) rfl (by decide +kernel) rfl rfl (Nat.le_of_ble_eq_true rfl) dX4_divideAll_122 (fun H locs hP hD hS => ?_)
            have hP : va_P (dC, dI) vwCl (Wm g0 g1 g2 cB cC (sm12 (sm11 (f_X4_divide u (-p0) p1) (f_X4_divide u (-p0) p1).2.2.2.2.2.2.2.2.2.2.2.1) (-(f_X4_divide u (-p0) p1).2.2.2.2.2.2.2.2.2.2.2.2))) H := hP
            have hD : va_D A (Wm g0 g1 g2 cB cC (sm12 (sm11 (f_X4_divide u (-p0) p1) (f_X4_divide u (-p0) p1).2.2.2.2.2.2.2.2.2.2.2.1) (-(f_X4_divide u (-p0) p1).2.2.2.2.2.2.2.2.2.2.2.2))) := hD
            have hF : f_X4_divideAll u p0 p1 p2 = (sm12 (sm11 (f_X4_divide u (-p0) p1) (f_X4_divide u (-p0) p1).2.2.2.2.2.2.2.2.2.2.2.1) (-(f_X4_divide u (-p0) p1).2.2.2.2.2.2.2.2.2.2.2.2)) := by unfold f_X4_divideAll; rw [if_neg c1, if_neg c2, if_neg c4, if_pos c8, if_pos c9]
            exact W.vret hx hb hr (fun t ht hW => ⟨⟨(sm12 (sm11 (f_X4_divide u (-p0) p1) (f_X4_divide u (-p0) p1).2.2.2.2.2.2.2.2.2.2.2.1) (-(f_X4_divide u (-p0) p1).2.2.2.2.2.2.2.2.2.2.2.2)), rfl, hF.symm, by rw [ht]; exact hP, va_K.moved hW.alike hK, hD⟩, hS.F ht⟩) hS.2.2 dX4_divideAll_125
          · refine lv_aload_n hx hb dX4_divideAll_89 rfl (lv_at hl 2 rfl) ?_
            refine va_get (D := (dC, dI)) (ci := 1) (v := .long (f_X4_divide u (-p0) p1).2.2.2.2.2.2.2.2.2.2.2.1) (C := RX4) (T := TX4) (N := 13) hx hb hts inX4 hown hK hP 0 rfl rfl 11 (by decide) (hts _ qw_257) (fun _ h9 => h9) rfl dX4_divideAll_90 ?_
            refine lv_lneg hx hb dX4_divideAll_93 ?_
            refine lv_goto (tgt := 101) hx hb dX4_divideAll_94 (by decide) ?_
            refine va_put (D := (dC, dI)) (ci := 1) (v := .long (-(f_X4_divide u (-p0) p1).2.2.2.2.2.2.2.2.2.2.2.1)) (ty := .long) (C := RX4) (T := TX4) (N := 13) hx hb hts inX4 tyX4 tyX4_ok nmX4 hown hK hP hD hS 0 rfl rfl 11 (by decide) (hts _ qw_257) (fun _ h9 => h9) rfl (by decide +kernel) rfl rfl (Nat.le_of_ble_eq_true rfl) dX4_divideAll_101 (fun H locs hP hD hS => ?_)
            have hP : va_P (dC, dI) vwCl (Wm g0 g1 g2 cB cC (sm11 (f_X4_divide u (-p0) p1) (-(f_X4_divide u (-p0) p1).2.2.2.2.2.2.2.2.2.2.2.1))) H := hP
            have hD : va_D A (Wm g0 g1 g2 cB cC (sm11 (f_X4_divide u (-p0) p1) (-(f_X4_divide u (-p0) p1).2.2.2.2.2.2.2.2.2.2.2.1))) := hD
            refine lv_aload_n hx hb dX4_divideAll_104 rfl (lv_at hl 2 rfl) ?_
            refine lv_iload hx hb dX4_divideAll_105 (lv_at hl 1 rfl) ?_
            refine lv_if_eq (tgt := 118) hx hb dX4_divideAll_107 (by decide) (fun c_ => absurd c_ (by decide)) (fun _ => ?_)
            refine lv_aload_n hx hb dX4_divideAll_110 rfl (lv_at hl 2 rfl) ?_
            refine va_get (D := (dC, dI)) (ci := 1) (v := .long (f_X4_divide u (-p0) p1).2.2.2.2.2.2.2.2.2.2.2.2) (C := RX4) (T := TX4) (N := 13) hx hb hts inX4 hown hK hP 0 rfl rfl 12 (by decide) (hts _ qw_256) (fun _ h9 => h9) rfl dX4_divideAll_111 ?_
            refine lv_lneg hx hb dX4_divideAll_114 ?_
            refine lv_goto (tgt := 122) hx hb dX4_divideAll_115 (by decide) ?_
            refine va_put (D := (dC, dI)) (ci := 1) (v := .long (-(f_X4_divide u (-p0) p1).2.2.2.2.2.2.2.2.2.2.2.2)) (ty := .long) (C := RX4) (T := TX4) (N := 13) hx hb hts inX4 tyX4 tyX4_ok nmX4 hown hK hP hD hS 0 rfl rfl 12 (by decide) (hts _ qw_256) (fun _ h9 => h9) rfl (by decide +kernel) rfl rfl (Nat.le_of_ble_eq_true rfl) dX4_divideAll_122 (fun H locs hP hD hS => ?_)
            have hP : va_P (dC, dI) vwCl (Wm g0 g1 g2 cB cC (sm12 (sm11 (f_X4_divide u (-p0) p1) (-(f_X4_divide u (-p0) p1).2.2.2.2.2.2.2.2.2.2.2.1)) (-(f_X4_divide u (-p0) p1).2.2.2.2.2.2.2.2.2.2.2.2))) H := hP
            have hD : va_D A (Wm g0 g1 g2 cB cC (sm12 (sm11 (f_X4_divide u (-p0) p1) (-(f_X4_divide u (-p0) p1).2.2.2.2.2.2.2.2.2.2.2.1)) (-(f_X4_divide u (-p0) p1).2.2.2.2.2.2.2.2.2.2.2.2))) := hD
            have hF : f_X4_divideAll u p0 p1 p2 = (sm12 (sm11 (f_X4_divide u (-p0) p1) (-(f_X4_divide u (-p0) p1).2.2.2.2.2.2.2.2.2.2.2.1)) (-(f_X4_divide u (-p0) p1).2.2.2.2.2.2.2.2.2.2.2.2)) := by unfold f_X4_divideAll; rw [if_neg c1, if_neg c2, if_neg c4, if_pos c8, if_neg c9]
            exact W.vret hx hb hr (fun t ht hW => ⟨⟨(sm12 (sm11 (f_X4_divide u (-p0) p1) (-(f_X4_divide u (-p0) p1).2.2.2.2.2.2.2.2.2.2.2.1)) (-(f_X4_divide u (-p0) p1).2.2.2.2.2.2.2.2.2.2.2.2)), rfl, hF.symm, by rw [ht]; exact hP, va_K.moved hW.alike hK, hD⟩, hS.F ht⟩) hS.2.2 dX4_divideAll_125
        · have c8 := mt (lg_cmp_ge p1 (0 : Int64)).mpr c8
          refine lv_iconst (v := (1 : Int32)) hx hb dX4_divideAll_48 (by decide) ?_
          refine lv_goto (tgt := 53) hx hb dX4_divideAll_49 (by decide) ?_
          refine lv_istore (lv' := [(7, .int (1 : Int32)), (6, .int (1 : Int32)), (0, .ref g0), (1, .long p0), (3, .long p1), (5, .int p2)]) hx hb dX4_divideAll_53 hl (by decide) rfl (fun ls hl => ?_)
          refine lv_aload_n hx hb dX4_divideAll_55 rfl (lv_at hl 2 rfl) ?_
          refine lv_iload hx hb dX4_divideAll_56 (lv_at hl 1 rfl) ?_
          refine lv_if_eq (tgt := 66) hx hb dX4_divideAll_58 (by decide) (fun c_ => absurd c_ (by decide)) (fun _ => ?_)
          refine lv_lload_n hx hb dX4_divideAll_61 rfl (lv_at hl 3 rfl) ?_
          refine lv_lneg hx hb dX4_divideAll_62 ?_
          refine lv_goto (tgt := 67) hx hb dX4_divideAll_63 (by decide) ?_
          refine lv_iload hx hb dX4_divideAll_67 (lv_at hl 0 rfl) ?_
          refine lv_if_eq (tgt := 77) hx hb dX4_divideAll_69 (by decide) (fun c_ => absurd c_ (by decide)) (fun _ => ?_)
          refine lv_lload_n hx hb dX4_divideAll_72 rfl (lv_at hl 4 rfl) ?_
          refine lv_lneg hx hb dX4_divideAll_73 ?_
          refine lv_goto (tgt := 78) hx hb dX4_divideAll_74 (by decide) ?_
          refine wr_callv (wr := []) (va_runV (As := [.long (-p0), .long (-p1)]) (rest := []) ⟨hx, hb, hml, hown, hts⟩ (mt_X4_divide l dC dI g0 g1 g2 cB cC s.heap.size u (-p0) (-p1)) (cwV 2 hts gX4_71_X4_divide rfl rfl rfl (by decide +kernel) ⟨Nat.le_of_ble_eq_true rfl, Nat.le_of_ble_eq_true rfl⟩) (wr_V hK hP hD (ci := 1) (q0 := 0) rfl rfl rfl) rfl rfl hl.1 rfl (lv_room (Nat.le_of_ble_eq_true rfl)) dX4_divideAll_78 ⟨Nat.le_of_ble_eq_true rfl, Nat.le_of_ble_eq_true rfl⟩) hS hP hD hA [0, 1, 2] [] rfl rfl (by decide) (by decide) (fun v_ H locs hw hP hD hS => ?_)
          subst hw
          refine W.eq (g2 := F0 m 81 ls []) rfl ?_
          have hP : va_P (dC, dI) vwCl (Wm g0 g1 g2 cB cC (f_X4_divide u (-p0) (-p1))) H := hP
          have hD : va_D A (Wm g0 g1 g2 cB cC (f_X4_divide u (-p0) (-p1))) := hD
          refine lv_aload_n hx hb dX4_divideAll_81 rfl (lv_at hl 2 rfl) ?_
          refine lv_iload hx hb dX4_divideAll_82 (lv_at hl 1 rfl) ?_
          refine lv_iload hx hb dX4_divideAll_84 (lv_at hl 0 rfl) ?_
          refine lv_icmp_eq (tgt := 97) hx hb dX4_divideAll_86 (by decide) (fun c10 => ?_) (fun c10 => ?_)
          · refine lv_aload_n hx hb dX4_divideAll_97 rfl (lv_at hl 2 rfl) ?_
            refine va_get (D := (dC, dI)) (ci := 1) (v := .long (f_X4_divide u (-p0) (-p1)).2.2.2.2.2.2.2.2.2.2.2.1) (C := RX4) (T := TX4) (N := 13) hx hb hts inX4 hown hK hP 0 rfl rfl 11 (by decide) (hts _ qw_257) (fun _ h9 => h9) rfl dX4_divideAll_98 ?_
            refine va_put (D := (dC, dI)) (ci := 1) (v := .long (f_X4_divide u (-p0) (-p1)).2.2.2.2.2.2.2.2.2.2.2.1) (ty := .long) (C := RX4) (T := TX4) (N := 13) hx hb hts inX4 tyX4 tyX4_ok nmX4 hown hK hP hD hS 0 rfl rfl 11 (by decide) (hts _ qw_257) (fun _ h9 => h9) rfl (by decide +kernel) rfl rfl (Nat.le_of_ble_eq_true rfl) dX4_divideAll_101 (fun H locs hP hD hS => ?_)
            have hP : va_P (dC, dI) vwCl (Wm g0 g1 g2 cB cC (sm11 (f_X4_divide u (-p0) (-p1)) (f_X4_divide u (-p0) (-p1)).2.2.2.2.2.2.2.2.2.2.2.1)) H := hP
            have hD : va_D A (Wm g0 g1 g2 cB cC (sm11 (f_X4_divide u (-p0) (-p1)) (f_X4_divide u (-p0) (-p1)).2.2.2.2.2.2.2.2.2.2.2.1)) := hD
            refine lv_aload_n hx hb dX4_divideAll_104 rfl (lv_at hl 2 rfl) ?_
            refine lv_iload hx hb dX4_divideAll_105 (lv_at hl 1 rfl) ?_
            refine lv_if_eq (tgt := 118) hx hb dX4_divideAll_107 (by decide) (fun c_ => absurd c_ (by decide)) (fun _ => ?_)
            refine lv_aload_n hx hb dX4_divideAll_110 rfl (lv_at hl 2 rfl) ?_
            refine va_get (D := (dC, dI)) (ci := 1) (v := .long (f_X4_divide u (-p0) (-p1)).2.2.2.2.2.2.2.2.2.2.2.2) (C := RX4) (T := TX4) (N := 13) hx hb hts inX4 hown hK hP 0 rfl rfl 12 (by decide) (hts _ qw_256) (fun _ h9 => h9) rfl dX4_divideAll_111 ?_
            refine lv_lneg hx hb dX4_divideAll_114 ?_
            refine lv_goto (tgt := 122) hx hb dX4_divideAll_115 (by decide) ?_
            refine va_put (D := (dC, dI)) (ci := 1) (v := .long (-(f_X4_divide u (-p0) (-p1)).2.2.2.2.2.2.2.2.2.2.2.2)) (ty := .long) (C := RX4) (T := TX4) (N := 13) hx hb hts inX4 tyX4 tyX4_ok nmX4 hown hK hP hD hS 0 rfl rfl 12 (by decide) (hts _ qw_256) (fun _ h9 => h9) rfl (by decide +kernel) rfl rfl (Nat.le_of_ble_eq_true rfl) dX4_divideAll_122 (fun H locs hP hD hS => ?_)
            have hP : va_P (dC, dI) vwCl (Wm g0 g1 g2 cB cC (sm12 (sm11 (f_X4_divide u (-p0) (-p1)) (f_X4_divide u (-p0) (-p1)).2.2.2.2.2.2.2.2.2.2.2.1) (-(f_X4_divide u (-p0) (-p1)).2.2.2.2.2.2.2.2.2.2.2.2))) H := hP
            have hD : va_D A (Wm g0 g1 g2 cB cC (sm12 (sm11 (f_X4_divide u (-p0) (-p1)) (f_X4_divide u (-p0) (-p1)).2.2.2.2.2.2.2.2.2.2.2.1) (-(f_X4_divide u (-p0) (-p1)).2.2.2.2.2.2.2.2.2.2.2.2))) := hD
            have hF : f_X4_divideAll u p0 p1 p2 = (sm12 (sm11 (f_X4_divide u (-p0) (-p1)) (f_X4_divide u (-p0) (-p1)).2.2.2.2.2.2.2.2.2.2.2.1) (-(f_X4_divide u (-p0) (-p1)).2.2.2.2.2.2.2.2.2.2.2.2)) := by unfold f_X4_divideAll; rw [if_neg c1, if_neg c2, if_neg c4, if_neg c8, if_pos c10]
            exact W.vret hx hb hr (fun t ht hW => ⟨⟨(sm12 (sm11 (f_X4_divide u (-p0) (-p1)) (f_X4_divide u (-p0) (-p1)).2.2.2.2.2.2.2.2.2.2.2.1) (-(f_X4_divide u (-p0) (-p1)).2.2.2.2.2.2.2.2.2.2.2.2)), rfl, hF.symm, by rw [ht]; exact hP, va_K.moved hW.alike hK, hD⟩, hS.F ht⟩) hS.2.2 dX4_divideAll_125
          · refine lv_aload_n hx hb dX4_divideAll_89 rfl (lv_at hl 2 rfl) ?_
            refine va_get (D := (dC, dI)) (ci := 1) (v := .long (f_X4_divide u (-p0) (-p1)).2.2.2.2.2.2.2.2.2.2.2.1) (C := RX4) (T := TX4) (N := 13) hx hb hts inX4 hown hK hP 0 rfl rfl 11 (by decide) (hts _ qw_257) (fun _ h9 => h9) rfl dX4_divideAll_90 ?_
            refine lv_lneg hx hb dX4_divideAll_93 ?_
            refine lv_goto (tgt := 101) hx hb dX4_divideAll_94 (by decide) ?_
            refine va_put (D := (dC, dI)) (ci := 1) (v := .long (-(f_X4_divide u (-p0) (-p1)).2.2.2.2.2.2.2.2.2.2.2.1)) (ty := .long) (C := RX4) (T := TX4) (N := 13) hx hb hts inX4 tyX4 tyX4_ok nmX4 hown hK hP hD hS 0 rfl rfl 11 (by decide) (hts _ qw_257) (fun _ h9 => h9) rfl (by decide +kernel) rfl rfl (Nat.le_of_ble_eq_true rfl) dX4_divideAll_101 (fun H locs hP hD hS => ?_)
            have hP : va_P (dC, dI) vwCl (Wm g0 g1 g2 cB cC (sm11 (f_X4_divide u (-p0) (-p1)) (-(f_X4_divide u (-p0) (-p1)).2.2.2.2.2.2.2.2.2.2.2.1))) H := hP
            have hD : va_D A (Wm g0 g1 g2 cB cC (sm11 (f_X4_divide u (-p0) (-p1)) (-(f_X4_divide u (-p0) (-p1)).2.2.2.2.2.2.2.2.2.2.2.1))) := hD
            refine lv_aload_n hx hb dX4_divideAll_104 rfl (lv_at hl 2 rfl) ?_
            refine lv_iload hx hb dX4_divideAll_105 (lv_at hl 1 rfl) ?_
            refine lv_if_eq (tgt := 118) hx hb dX4_divideAll_107 (by decide) (fun c_ => absurd c_ (by decide)) (fun _ => ?_)
            refine lv_aload_n hx hb dX4_divideAll_110 rfl (lv_at hl 2 rfl) ?_
            refine va_get (D := (dC, dI)) (ci := 1) (v := .long (f_X4_divide u (-p0) (-p1)).2.2.2.2.2.2.2.2.2.2.2.2) (C := RX4) (T := TX4) (N := 13) hx hb hts inX4 hown hK hP 0 rfl rfl 12 (by decide) (hts _ qw_256) (fun _ h9 => h9) rfl dX4_divideAll_111 ?_
            refine lv_lneg hx hb dX4_divideAll_114 ?_
            refine lv_goto (tgt := 122) hx hb dX4_divideAll_115 (by decide) ?_
            refine va_put (D := (dC, dI)) (ci := 1) (v := .long (-(f_X4_divide u (-p0) (-p1)).2.2.2.2.2.2.2.2.2.2.2.2)) (ty := .long) (C := RX4) (T := TX4) (N := 13) hx hb hts inX4 tyX4 tyX4_ok nmX4 hown hK hP hD hS 0 rfl rfl 12 (by decide) (hts _ qw_256) (fun _ h9 => h9) rfl (by decide +kernel) rfl rfl (Nat.le_of_ble_eq_true rfl) dX4_divideAll_122 (fun H locs hP hD hS => ?_)
            have hP : va_P (dC, dI) vwCl (Wm g0 g1 g2 cB cC (sm12 (sm11 (f_X4_divide u (-p0) (-p1)) (-(f_X4_divide u (-p0) (-p1)).2.2.2.2.2.2.2.2.2.2.2.1)) (-(f_X4_divide u (-p0) (-p1)).2.2.2.2.2.2.2.2.2.2.2.2))) H := hP
            have hD : va_D A (Wm g0 g1 g2 cB cC (sm12 (sm11 (f_X4_divide u (-p0) (-p1)) (-(f_X4_divide u (-p0) (-p1)).2.2.2.2.2.2.2.2.2.2.2.1)) (-(f_X4_divide u (-p0) (-p1)).2.2.2.2.2.2.2.2.2.2.2.2))) := hD
            have hF : f_X4_divideAll u p0 p1 p2 = (sm12 (sm11 (f_X4_divide u (-p0) (-p1)) (-(f_X4_divide u (-p0) (-p1)).2.2.2.2.2.2.2.2.2.2.2.1)) (-(f_X4_divide u (-p0) (-p1)).2.2.2.2.2.2.2.2.2.2.2.2)) := by unfold f_X4_divideAll; rw [if_neg c1, if_neg c2, if_neg c4, if_neg c8, if_neg c10]
            exact W.vret hx hb hr (fun t ht hW => ⟨⟨(sm12 (sm11 (f_X4_divide u (-p0) (-p1)) (-(f_X4_divide u (-p0) (-p1)).2.2.2.2.2.2.2.2.2.2.2.1)) (-(f_X4_divide u (-p0) (-p1)).2.2.2.2.2.2.2.2.2.2.2.2)), rfl, hF.symm, by rw [ht]; exact hP, va_K.moved hW.alike hK, hD⟩, hS.F ht⟩) hS.2.2 dX4_divideAll_125
  · have c1 := (lg_cmp_eq p1 (0 : Int64)).mp c1
    refine lv_aload_n hx hb dX4_divideAll_6 rfl (lv_at hl 0 rfl) ?_
    refine lv_ldc2 (v := (-1 : Int64)) hx hb hown (hts _ qw_286) dX4_divideAll_7 ?_
    refine va_put (D := (dC, dI)) (ci := 1) (v := .long (-1 : Int64)) (ty := .long) (C := RX4) (T := TX4) (N := 13) hx hb hts inX4 tyX4 tyX4_ok nmX4 hown hK hP hD hS 0 rfl rfl 11 (by decide) (hts _ qw_257) (fun _ h9 => h9) rfl (by decide +kernel) rfl rfl (Nat.le_of_ble_eq_true rfl) dX4_divideAll_10 (fun H locs hP hD hS => ?_)
    have hP : va_P (dC, dI) vwCl (Wm g0 g1 g2 cB cC (sm11 u (-1 : Int64))) H := hP
    have hD : va_D A (Wm g0 g1 g2 cB cC (sm11 u (-1 : Int64))) := hD
    refine lv_aload_n hx hb dX4_divideAll_13 rfl (lv_at hl 0 rfl) ?_
    refine lv_lload_n hx hb dX4_divideAll_14 rfl (lv_at hl 1 rfl) ?_
    refine va_put (D := (dC, dI)) (ci := 1) (v := .long p0) (ty := .long) (C := RX4) (T := TX4) (N := 13) hx hb hts inX4 tyX4 tyX4_ok nmX4 hown hK hP hD hS 0 rfl rfl 12 (by decide) (hts _ qw_256) (fun _ h9 => h9) rfl (by decide +kernel) rfl rfl (Nat.le_of_ble_eq_true rfl) dX4_divideAll_15 (fun H locs hP hD hS => ?_)
    have hP : va_P (dC, dI) vwCl (Wm g0 g1 g2 cB cC (sm12 (sm11 u (-1 : Int64)) p0)) H := hP
    have hD : va_D A (Wm g0 g1 g2 cB cC (sm12 (sm11 u (-1 : Int64)) p0)) := hD
    have hF : f_X4_divideAll u p0 p1 p2 = (sm12 (sm11 u (-1 : Int64)) p0) := by unfold f_X4_divideAll; rw [if_pos c1]
    exact W.vret hx hb hr (fun t ht hW => ⟨⟨(sm12 (sm11 u (-1 : Int64)) p0), rfl, hF.symm, by rw [ht]; exact hP, va_K.moved hW.alike hK, hD⟩, hS.F ht⟩) hS.2.2 dX4_divideAll_18
