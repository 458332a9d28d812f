noncomputable def f_X4_wanted (u : SmT) (p0 : Int32) : Int64 × SmT :=
  if u.2.2.2.2.2.2.2.2.1 = (-1 : Int32) then
    ((-1 : Int64), (sm0 u (0 : Int32)))
  else if p0 < 0 then
    ((-1 : Int64), (sm0 u (0 : Int32)))
  else if p0 ≤ (4 : Int32) then
    ((u.2.2.2.2.2.2.2.2.2.2.1 p0.toNatClampNeg), (sm0 u (0 : Int32)))
  else
    ((-1 : Int64), (sm0 u (0 : Int32)))
set_option maxHeartbeats 4000000 in
set_option maxRecDepth 100000 in
theorem mt_X4_wanted (l : Launch) (dC : Nat → ClassId) (dI : Nat → Nat → Nat) (g0 g1 g2 : Nat) (cB cC : ClassId) (sz : Nat) (u : SmT) (p0 : Int32) : Met l yX4_wanted wsX4_wanted ({ frames := 0, cells := 0, slots := 0, locals := 0 }) (wr_P [.ref g0, .int p0] (dC, dI) vwCl (Wm g0 g1 g2 cB cC u) [(cB, .long), (cC, .long)] sz) (va_Ql (fun r v => r = (f_X4_wanted u p0).1 ∧ v = (f_X4_wanted u p0).2) (wr_B (dC, dI) vwCl [(cB, .long), (cC, .long)] (va_A (Wm g0 g1 g2 cB cC u) sz) (Wm g0 g1 g2 cB cC)) (va_A (Wm g0 g1 g2 cB cC u) sz)) 0 0 (va_A (Wm g0 g1 g2 cB cC u) sz) := by
  refine Met.ofW (cc := cX4_wanted) (maxL := 2) (ret := (some .long)) (by decide) rfl ?_
  intro p e s m args below meth c s₁ B hml hv
  obtain ⟨rfl, hsz, hP, hK, hD0⟩ := hv
  have hx := B.exec
  have hb := B.bytes
  have hr := B.returns
  have hts0 := atoms_spec (ws := wsX4_wanted) B.pre
  have hts := fun (w : Cond) (h : w ∈ lw_G) => hts0 w (List.mem_cons_of_mem _ h)
  have hown : s.vm.findClass RX4 = some m.cls := findClass_of_methodNamed B.named
  have hlocks := B.notSynchronized
  subst hsz
  have hD := hD0.self (sz := s.heap.size)
  generalize hAe : va_A (Wm g0 g1 g2 cB cC u) s.heap.size = A at hD ⊢
  have hA : ∀ q : Nat, s.heap.size ≤ q → A q := fun q h => by rw [← hAe]; exact Or.inr h
  have hS : va_S A s.heap s.heap [] := va_S.rf
  have hl := lv_entry ([.ref g0, .int p0]) (n := 2) (Nat.le_of_ble_eq_true rfl)
  rw [lg_entry_eq]
  generalize (lg_sl ([.ref g0, .int p0]) ++ List.replicate (2 - (lg_sl ([.ref g0, .int p0])).length) Slot.unset).toArray = ls at hl ⊢
  have hl : lv_has ls 2 [(0, .ref g0), (1, .int p0)] := hl
  refine lv_aload_n hx hb dX4_wanted_0 rfl (lv_at hl 0 rfl) ?_
  refine lv_iconst (v := (0 : Int32)) hx hb dX4_wanted_1 (by decide) ?_
  refine va_put (D := (dC, dI)) (ci := 1) (v := .int (0 : Int32)) (ty := .int) (C := RX4) (T := TX4) (N := 13) hx hb hts inX4 tyX4 tyX4_ok nmX4 hown hK hP hD hS 0 rfl rfl 0 (by decide) (hts _ qw_258) (fun _ h9 => h9) rfl (by decide +kernel) rfl rfl (Nat.le_of_ble_eq_true rfl) dX4_wanted_2 (fun H locs hP hD hS => ?_)
  have hP : va_P (dC, dI) vwCl (Wm g0 g1 g2 cB cC (sm0 u (0 : Int32))) H := hP
  have hD : va_D A (Wm g0 g1 g2 cB cC (sm0 u (0 : Int32))) := hD
  refine lv_aload_n hx hb dX4_wanted_5 rfl (lv_at hl 0 rfl) ?_
  refine va_get (D := (dC, dI)) (ci := 1) (v := .int u.2.2.2.2.2.2.2.2.1) (C := RX4) (T := TX4) (N := 13) hx hb hts inX4 hown hK hP 0 rfl rfl 8 (by decide) (hts _ qw_282) (fun _ h9 => h9) rfl dX4_wanted_6 ?_
  refine lv_iconst (v := (-1 : Int32)) hx hb dX4_wanted_9 (by decide) ?_
  refine lv_icmp_eq (tgt := 22) hx hb dX4_wanted_10 (by decide) (fun c1 => ?_) (fun c1 => ?_)
  · refine lv_ldc2 (v := (-1 : Int64)) hx hb hown (hts _ qw_286) dX4_wanted_22 ?_
    refine lv_goto (tgt := 34) hx hb dX4_wanted_25 (by decide) ?_
    have hF : f_X4_wanted u p0 = ((-1 : Int64), (sm0 u (0 : Int32))) := by unfold f_X4_wanted; rw [if_pos c1]
    exact W.lret (v := (-1 : Int64)) hx hb hr (fun t ht hW => ⟨⟨(-1 : Int64), (sm0 u (0 : Int32)), rfl, ⟨(congrArg Prod.fst hF).symm, (congrArg Prod.snd hF).symm⟩, by rw [ht]; exact hP, va_K.moved hW.alike hK, hD⟩, hS.F ht⟩) hS.2.2 dX4_wanted_34
  · refine lv_iload_n hx hb dX4_wanted_13 rfl (lv_at hl 1 rfl) ?_
    refine lv_if_lt (tgt := 22) hx hb dX4_wanted_14 (by decide) (fun c2 => ?_) (fun c2 => ?_)
    · refine lv_ldc2 (v := (-1 : Int64)) hx hb hown (hts _ qw_286) dX4_wanted_22 ?_
      refine lv_goto (tgt := 34) hx hb dX4_wanted_25 (by decide) ?_
      have hF : f_X4_wanted u p0 = ((-1 : Int64), (sm0 u (0 : Int32))) := by unfold f_X4_wanted; rw [if_neg c1, if_pos c2]
      exact W.lret (v := (-1 : Int64)) hx hb hr (fun t ht hW => ⟨⟨(-1 : Int64), (sm0 u (0 : Int32)), rfl, ⟨(congrArg Prod.fst hF).symm, (congrArg Prod.snd hF).symm⟩, by rw [ht]; exact hP, va_K.moved hW.alike hK, hD⟩, hS.F ht⟩) hS.2.2 dX4_wanted_34
    · refine lv_iload_n hx hb dX4_wanted_17 rfl (lv_at hl 1 rfl) ?_
      refine lv_iconst (v := (4 : Int32)) hx hb dX4_wanted_18 (by decide) ?_
      refine lv_icmp_le (tgt := 28) hx hb dX4_wanted_19 (by decide) (fun c3 => ?_) (fun c3 => ?_)
      · refine lv_aload_n hx hb dX4_wanted_28 rfl (lv_at hl 0 rfl) ?_
        refine va_get (D := (dC, dI)) (ci := 1) (v := .ref g2) (C := RX4) (T := TX4) (N := 13) hx hb hts inX4 hown hK hP 0 rfl rfl 10 (by decide) (hts _ qw_271) (fun _ h9 => h9) rfl dX4_wanted_29 ?_
        refine lv_iload_n hx hb dX4_wanted_32 rfl (lv_at hl 1 rfl) ?_
        refine va_lald hx hb hK hP 2 1 rfl rfl (bd_what _ c2 c3) dX4_wanted_33 ?_
        have hF : f_X4_wanted u p0 = ((u.2.2.2.2.2.2.2.2.2.2.1 p0.toNatClampNeg), (sm0 u (0 : Int32))) := by unfold f_X4_wanted; rw [if_neg c1, if_neg c2, if_pos c3]
        exact W.lret (v := (u.2.2.2.2.2.2.2.2.2.2.1 p0.toNatClampNeg)) hx hb hr (fun t ht hW => ⟨⟨(u.2.2.2.2.2.2.2.2.2.2.1 p0.toNatClampNeg), (sm0 u (0 : Int32)), rfl, ⟨(congrArg Prod.fst hF).symm, (congrArg Prod.snd hF).symm⟩, by rw [ht]; exact hP, va_K.moved hW.alike hK, hD⟩, hS.F ht⟩) hS.2.2 dX4_wanted_34
      · refine lv_ldc2 (v := (-1 : Int64)) hx hb hown (hts _ qw_286) dX4_wanted_22 ?_
        refine lv_goto (tgt := 34) hx hb dX4_wanted_25 (by decide) ?_
        have hF : f_X4_wanted u p0 = ((-1 : Int64), (sm0 u (0 : Int32))) := by unfold f_X4_wanted; rw [if_neg c1, if_neg c2, if_neg c3]
        exact W.lret (v := (-1 : Int64)) hx hb hr (fun t ht hW => ⟨⟨(-1 : Int64), (sm0 u (0 : Int32)), rfl, ⟨(congrArg Prod.fst hF).symm, (congrArg Prod.snd hF).symm⟩, by rw [ht]; exact hP, va_K.moved hW.alike hK, hD⟩, hS.F ht⟩) hS.2.2 dX4_wanted_34

noncomputable def f_X4_branch (u : SmT) (p0 : Int32) : Int32 × SmT :=
  if p0 = (2 : Int32) then
    ((-1 : Int32), u)
  else if p0 = (3 : Int32) then
    ((-1 : Int32), u)
  else if (2 : Int32) ≤ p0 then
    if (6 : Int32) ≤ p0 then
      if p0 = 0 then
        if (f_X4_isLess u.2.2.2.2.2.2.1 u.2.2.2.2.2.2.2.1) = (1 : Int32) then
          ((f_X4_go u (u.2.2.1 + (f_X4_immediateB u))).1, (f_X4_go u (u.2.2.1 + (f_X4_immediateB u))).2)
        else
          ((f_X4_go u (u.2.2.1 + u.2.2.2.2.2.1.toInt64)).1, (f_X4_go u (u.2.2.1 + u.2.2.2.2.2.1.toInt64)).2)
      else if p0 = (4 : Int32) then
        if (f_X4_isLess u.2.2.2.2.2.2.1 u.2.2.2.2.2.2.2.1) = (1 : Int32) then
          ((f_X4_go u (u.2.2.1 + (f_X4_immediateB u))).1, (f_X4_go u (u.2.2.1 + (f_X4_immediateB u))).2)
        else
          ((f_X4_go u (u.2.2.1 + u.2.2.2.2.2.1.toInt64)).1, (f_X4_go u (u.2.2.1 + u.2.2.2.2.2.1.toInt64)).2)
      else if p0 = (6 : Int32) then
        if (f_X4_isLess u.2.2.2.2.2.2.1 u.2.2.2.2.2.2.2.1) = (1 : Int32) then
          ((f_X4_go u (u.2.2.1 + (f_X4_immediateB u))).1, (f_X4_go u (u.2.2.1 + (f_X4_immediateB u))).2)
        else
          ((f_X4_go u (u.2.2.1 + u.2.2.2.2.2.1.toInt64)).1, (f_X4_go u (u.2.2.1 + u.2.2.2.2.2.1.toInt64)).2)
      else if (f_X4_isLess u.2.2.2.2.2.2.1 u.2.2.2.2.2.2.2.1) = (0 : Int32) then
        ((f_X4_go u (u.2.2.1 + (f_X4_immediateB u))).1, (f_X4_go u (u.2.2.1 + (f_X4_immediateB u))).2)
      else
        ((f_X4_go u (u.2.2.1 + u.2.2.2.2.2.1.toInt64)).1, (f_X4_go u (u.2.2.1 + u.2.2.2.2.2.1.toInt64)).2)
    else if u.2.2.2.2.2.2.2.1 ≤ u.2.2.2.2.2.2.1 then
      if p0 = 0 then
        if (0 : Int32) = (1 : Int32) then
          ((f_X4_go u (u.2.2.1 + (f_X4_immediateB u))).1, (f_X4_go u (u.2.2.1 + (f_X4_immediateB u))).2)
        else
          ((f_X4_go u (u.2.2.1 + u.2.2.2.2.2.1.toInt64)).1, (f_X4_go u (u.2.2.1 + u.2.2.2.2.2.1.toInt64)).2)
      else if p0 = (4 : Int32) then
        if (0 : Int32) = (1 : Int32) then
          ((f_X4_go u (u.2.2.1 + (f_X4_immediateB u))).1, (f_X4_go u (u.2.2.1 + (f_X4_immediateB u))).2)
        else
          ((f_X4_go u (u.2.2.1 + u.2.2.2.2.2.1.toInt64)).1, (f_X4_go u (u.2.2.1 + u.2.2.2.2.2.1.toInt64)).2)
      else if p0 = (6 : Int32) then
        if (0 : Int32) = (1 : Int32) then
          ((f_X4_go u (u.2.2.1 + (f_X4_immediateB u))).1, (f_X4_go u (u.2.2.1 + (f_X4_immediateB u))).2)
        else
          ((f_X4_go u (u.2.2.1 + u.2.2.2.2.2.1.toInt64)).1, (f_X4_go u (u.2.2.1 + u.2.2.2.2.2.1.toInt64)).2)
      else if (0 : Int32) = (0 : Int32) then
        ((f_X4_go u (u.2.2.1 + (f_X4_immediateB u))).1, (f_X4_go u (u.2.2.1 + (f_X4_immediateB u))).2)
      else
        ((f_X4_go u (u.2.2.1 + u.2.2.2.2.2.1.toInt64)).1, (f_X4_go u (u.2.2.1 + u.2.2.2.2.2.1.toInt64)).2)
    else if p0 = 0 then
      if (1 : Int32) = (1 : Int32) then
        ((f_X4_go u (u.2.2.1 + (f_X4_immediateB u))).1, (f_X4_go u (u.2.2.1 + (f_X4_immediateB u))).2)
      else
        ((f_X4_go u (u.2.2.1 + u.2.2.2.2.2.1.toInt64)).1, (f_X4_go u (u.2.2.1 + u.2.2.2.2.2.1.toInt64)).2)
    else if p0 = (4 : Int32) then
      if (1 : Int32) = (1 : Int32) then
        ((f_X4_go u (u.2.2.1 + (f_X4_immediateB u))).1, (f_X4_go u (u.2.2.1 + (f_X4_immediateB u))).2)
      else
        ((f_X4_go u (u.2.2.1 + u.2.2.2.2.2.1.toInt64)).1, (f_X4_go u (u.2.2.1 + u.2.2.2.2.2.1.toInt64)).2)
    else if p0 = (6 : Int32) then
      if (1 : Int32) = (1 : Int32) then
        ((f_X4_go u (u.2.2.1 + (f_X4_immediateB u))).1, (f_X4_go u (u.2.2.1 + (f_X4_immediateB u))).2)
      else
        ((f_X4_go u (u.2.2.1 + u.2.2.2.2.2.1.toInt64)).1, (f_X4_go u (u.2.2.1 + u.2.2.2.2.2.1.toInt64)).2)
    else if (1 : Int32) = (0 : Int32) then
      ((f_X4_go u (u.2.2.1 + (f_X4_immediateB u))).1, (f_X4_go u (u.2.2.1 + (f_X4_immediateB u))).2)
    else
      ((f_X4_go u (u.2.2.1 + u.2.2.2.2.2.1.toInt64)).1, (f_X4_go u (u.2.2.1 + u.2.2.2.2.2.1.toInt64)).2)
  else if u.2.2.2.2.2.2.1 = u.2.2.2.2.2.2.2.1 then
    if p0 = 0 then
      if (1 : Int32) = (1 : Int32) then
        ((f_X4_go u (u.2.2.1 + (f_X4_immediateB u))).1, (f_X4_go u (u.2.2.1 + (f_X4_immediateB u))).2)
      else
        ((f_X4_go u (u.2.2.1 + u.2.2.2.2.2.1.toInt64)).1, (f_X4_go u (u.2.2.1 + u.2.2.2.2.2.1.toInt64)).2)
    else if p0 = (4 : Int32) then
      if (1 : Int32) = (1 : Int32) then
        ((f_X4_go u (u.2.2.1 + (f_X4_immediateB u))).1, (f_X4_go u (u.2.2.1 + (f_X4_immediateB u))).2)
      else
        ((f_X4_go u (u.2.2.1 + u.2.2.2.2.2.1.toInt64)).1, (f_X4_go u (u.2.2.1 + u.2.2.2.2.2.1.toInt64)).2)
    else if p0 = (6 : Int32) then
      if (1 : Int32) = (1 : Int32) then
        ((f_X4_go u (u.2.2.1 + (f_X4_immediateB u))).1, (f_X4_go u (u.2.2.1 + (f_X4_immediateB u))).2)
      else
        ((f_X4_go u (u.2.2.1 + u.2.2.2.2.2.1.toInt64)).1, (f_X4_go u (u.2.2.1 + u.2.2.2.2.2.1.toInt64)).2)
    else if (1 : Int32) = (0 : Int32) then
      ((f_X4_go u (u.2.2.1 + (f_X4_immediateB u))).1, (f_X4_go u (u.2.2.1 + (f_X4_immediateB u))).2)
    else
      ((f_X4_go u (u.2.2.1 + u.2.2.2.2.2.1.toInt64)).1, (f_X4_go u (u.2.2.1 + u.2.2.2.2.2.1.toInt64)).2)
  else if p0 = 0 then
    if (0 : Int32) = (1 : Int32) then
      ((f_X4_go u (u.2.2.1 + (f_X4_immediateB u))).1, (f_X4_go u (u.2.2.1 + (f_X4_immediateB u))).2)
    else
      ((f_X4_go u (u.2.2.1 + u.2.2.2.2.2.1.toInt64)).1, (f_X4_go u (u.2.2.1 + u.2.2.2.2.2.1.toInt64)).2)
  else if p0 = (4 : Int32) then
    if (0 : Int32) = (1 : Int32) then
      ((f_X4_go u (u.2.2.1 + (f_X4_immediateB u))).1, (f_X4_go u (u.2.2.1 + (f_X4_immediateB u))).2)
    else
      ((f_X4_go u (u.2.2.1 + u.2.2.2.2.2.1.toInt64)).1, (f_X4_go u (u.2.2.1 + u.2.2.2.2.2.1.toInt64)).2)
  else if p0 = (6 : Int32) then
    if (0 : Int32) = (1 : Int32) then
      ((f_X4_go u (u.2.2.1 + (f_X4_immediateB u))).1, (f_X4_go u (u.2.2.1 + (f_X4_immediateB u))).2)
    else
      ((f_X4_go u (u.2.2.1 + u.2.2.2.2.2.1.toInt64)).1, (f_X4_go u (u.2.2.1 + u.2.2.2.2.2.1.toInt64)).2)
  else if (0 : Int32) = (0 : Int32) then
    ((f_X4_go u (u.2.2.1 + (f_X4_immediateB u))).1, (f_X4_go u (u.2.2.1 + (f_X4_immediateB u))).2)
  else
    ((f_X4_go u (u.2.2.1 + u.2.2.2.2.2.1.toInt64)).1, (f_X4_go u (u.2.2.1 + u.2.2.2.2.2.1.toInt64)).2)
set_option maxHeartbeats 4000000 in
set_option maxRecDepth 100000 in
theorem mt_X4_branch (l : Launch) (dC : Nat → ClassId) (dI : Nat → Nat → Nat) (g0 g1 g2 : Nat) (cB cC : ClassId) (sz : Nat) (u : SmT) (p0 : Int32) : Met l yX4_branch wsX4_branch ({ frames := 2, cells := 0, slots := 0, locals := 44 }) (wr_P [.ref g0, .int p0] (dC, dI) vwCl (Wm g0 g1 g2 cB cC u) [(cB, .long), (cC, .long)] sz) (va_Qi (fun r v => r = (f_X4_branch u p0).1 ∧ v = (f_X4_branch u p0).2) (wr_B (dC, dI) vwCl [(cB, .long), (cC, .long)] (va_A (Wm g0 g1 g2 cB cC u) sz) (Wm g0 g1 g2 cB cC)) (va_A (Wm g0 g1 g2 cB cC u) sz)) 0 0 (va_A (Wm g0 g1 g2 cB cC u) sz) := by
  refine Met.ofW (cc := cX4_branch) (maxL := 4) (ret := (some .int)) (by decide) rfl ?_
  intro p e s m args below meth c s₁ B hml hv
  obtain ⟨rfl, hsz, hP, hK, hD0⟩ := hv
  have hx := B.exec
  have hb := B.bytes
  have hr := B.returns
  have hts0 := atoms_spec (ws := wsX4_branch) B.pre
  have hts := fun (w : Cond) (h : w ∈ lw_G) => hts0 w (List.mem_cons_of_mem _ h)
  have hown : s.vm.findClass RX4 = some m.cls := findClass_of_methodNamed B.named
  have hlocks := B.notSynchronized
  subst hsz
  have hD := hD0.self (sz := s.heap.size)
  generalize hAe : va_A (Wm g0 g1 g2 cB cC u) s.heap.size = A at hD ⊢
  have hA : ∀ q : Nat, s.heap.size ≤ q → A q := fun q h => by rw [← hAe]; exact Or.inr h
  have hS : va_S A s.heap s.heap [] := va_S.rf
  have hl := lv_entry ([.ref g0, .int p0]) (n := 4) (Nat.le_of_ble_eq_true rfl)
  rw [lg_entry_eq]
  generalize (lg_sl ([.ref g0, .int p0]) ++ List.replicate (4 - (lg_sl ([.ref g0, .int p0])).length) Slot.unset).toArray = ls at hl ⊢
  have hl : lv_has ls 4 [(0, .ref g0), (1, .int p0)] := hl
  refine lv_iload_n hx hb dX4_branch_0 rfl (lv_at hl 1 rfl) ?_
  refine lv_iconst (v := (2 : Int32)) hx hb dX4_branch_1 (by decide) ?_
  refine lv_icmp_eq (tgt := 10) hx hb dX4_branch_2 (by decide) (fun c1 => ?_) (fun c1 => ?_)
  · refine lv_iconst (v := (-1 : Int32)) hx hb dX4_branch_10 (by decide) ?_
    have hF : f_X4_branch u p0 = ((-1 : Int32), u) := by unfold f_X4_branch; rw [if_pos c1]
    exact W.iret (v := (-1 : Int32)) hx hb hr (fun t ht hW => ⟨⟨(-1 : Int32), u, rfl, ⟨(congrArg Prod.fst hF).symm, (congrArg Prod.snd hF).symm⟩, by rw [ht]; exact hP, va_K.moved hW.alike hK, hD⟩, hS.F ht⟩) hS.2.2 dX4_branch_11
  · refine lv_iload_n hx hb dX4_branch_5 rfl (lv_at hl 1 rfl) ?_
    refine lv_iconst (v := (3 : Int32)) hx hb dX4_branch_6 (by decide) ?_
    refine lv_icmp_ne (tgt := 12) hx hb dX4_branch_7 (by decide) (fun c2 => ?_) (fun c2 => ?_)
    · refine lv_iload_n hx hb dX4_branch_12 rfl (lv_at hl 1 rfl) ?_
      refine lv_iconst (v := (2 : Int32)) hx hb dX4_branch_13 (by decide) ?_
      refine lv_icmp_ge (tgt := 37) hx hb dX4_branch_14 (by decide) (fun c3 => ?_) (fun c3 => ?_)
      · refine lv_iload_n hx hb dX4_branch_37 rfl (lv_at hl 1 rfl) ?_
        refine lv_bipush (v := (6 : Int32)) hx hb dX4_branch_38 (by decide) ?_
        refine lv_icmp_ge (tgt := 63) hx hb dX4_branch_40 (by decide) (fun c4 => ?_) (fun c4 => ?_)
        · refine lv_aload_n hx hb dX4_branch_63 rfl (lv_at hl 0 rfl) ?_
          refine va_get (D := (dC, dI)) (ci := 1) (v := .long u.2.2.2.2.2.2.1) (C := RX4) (T := TX4) (N := 13) hx hb hts inX4 hown hK hP 0 rfl rfl 6 (by decide) (hts _ qw_287) (fun _ h9 => h9) rfl dX4_branch_64 ?_
          refine lv_aload_n hx hb dX4_branch_67 rfl (lv_at hl 0 rfl) ?_
          refine va_get (D := (dC, dI)) (ci := 1) (v := .long u.2.2.2.2.2.2.2.1) (C := RX4) (T := TX4) (N := 13) hx hb hts inX4 hown hK hP 0 rfl rfl 7 (by decide) (hts _ qw_288) (fun _ h9 => h9) rfl dX4_branch_68 ?_
          refine W.callV (W.runS (As := [.long u.2.2.2.2.2.2.1, .long u.2.2.2.2.2.2.2.1]) (rest := []) ⟨hx, hb, hml, hown, hts⟩ (mt_X4_isLess l u.2.2.2.2.2.2.1 u.2.2.2.2.2.2.2.1) (va_cwS 2 hts gX4_59_X4_isLess rfl rfl rfl (by decide +kernel) ⟨Nat.le_of_ble_eq_true rfl, Nat.le_of_ble_eq_true rfl⟩) preEq rfl rfl hl.1 rfl (lv_room (Nat.le_of_ble_eq_true rfl)) dX4_branch_71 ⟨Nat.le_of_ble_eq_true rfl, Nat.le_of_ble_eq_true rfl⟩) ?_
          refine W.eq (g2 := F0 m 74 ls [.int (f_X4_isLess u.2.2.2.2.2.2.1 u.2.2.2.2.2.2.2.1)]) rfl ?_
          refine lv_istore_n (lv' := [(2, .int (f_X4_isLess u.2.2.2.2.2.2.1 u.2.2.2.2.2.2.2.1)), (0, .ref g0), (1, .int p0)]) hx hb dX4_branch_74 rfl hl (by decide) rfl (fun ls hl => ?_)
          refine lv_iload_n hx hb dX4_branch_75 rfl (lv_at hl 0 rfl) ?_
          refine lv_iload_n hx hb dX4_branch_76 rfl (lv_at hl 2 rfl) ?_
          refine lv_if_eq (tgt := 91) hx hb dX4_branch_77 (by decide) (fun c5 => ?_) (fun c5 => ?_)
          · refine lv_iconst (v := (1 : Int32)) hx hb dX4_branch_91 (by decide) ?_
            refine lv_goto (tgt := 96) hx hb dX4_branch_92 (by decide) ?_
            refine lv_icmp_ne (tgt := 103) hx hb dX4_branch_96 (by decide) (fun c6 => ?_) (fun c6 => ?_)
            · refine lv_iconst (v := (0 : Int32)) hx hb dX4_branch_103 (by decide) ?_
              refine lv_istore_n (lv' := [(3, .int (0 : Int32)), (2, .int (f_X4_isLess u.2.2.2.2.2.2.1 u.2.2.2.2.2.2.2.1)), (0, .ref g0), (1, .int p0)]) hx hb dX4_branch_104 rfl hl (by decide) rfl (fun ls hl => ?_)
              refine lv_aload_n hx hb dX4_branch_105 rfl (lv_at hl 2 rfl) ?_
              refine lv_iload_n hx hb dX4_branch_106 rfl (lv_at hl 0 rfl) ?_
              refine lv_if_eq (tgt := 122) hx hb dX4_branch_107 (by decide) (fun _ => ?_) (fun c_ => absurd c_ (by decide))
              refine lv_aload_n hx hb dX4_branch_122 rfl (lv_at hl 2 rfl) ?_
              refine va_get (D := (dC, dI)) (ci := 1) (v := .long u.2.2.1) (C := RX4) (T := TX4) (N := 13) hx hb hts inX4 hown hK hP 0 rfl rfl 2 (by decide) (hts _ qw_281) (fun _ h9 => h9) rfl dX4_branch_123 ?_
              refine lv_aload_n hx hb dX4_branch_126 rfl (lv_at hl 2 rfl) ?_
              refine va_get (D := (dC, dI)) (ci := 1) (v := .int u.2.2.2.2.2.1) (C := RX4) (T := TX4) (N := 13) hx hb hts inX4 hown hK hP 0 rfl rfl 5 (by decide) (hts _ qw_284) (fun _ h9 => h9) rfl dX4_branch_127 ?_
              refine lv_i2l (v := u.2.2.2.2.2.1.toInt64) hx hb dX4_branch_130 rfl ?_
              refine lv_ladd hx hb dX4_branch_131 ?_
              refine wr_calli (wr := []) (va_runV (As := [.long (u.2.2.1 + u.2.2.2.2.2.1.toInt64)]) (rest := []) ⟨hx, hb, hml, hown, hts⟩ (mt_X4_go l dC dI g0 g1 g2 cB cC s.heap.size u (u.2.2.1 + u.2.2.2.2.2.1.toInt64)) (cwV 1 hts gX4_91_X4_go rfl rfl rfl (by decide +kernel) ⟨Nat.le_of_ble_eq_true rfl, Nat.le_of_ble_eq_true rfl⟩) (wr_V hK hP hD (ci := 1) (q0 := 0) rfl rfl rfl) rfl rfl hl.1 rfl (lv_room (Nat.le_of_ble_eq_true rfl)) dX4_branch_132 ⟨Nat.le_of_ble_eq_true rfl, Nat.le_of_ble_eq_true rfl⟩) hS hP hD hA [0, 1, 2] [] rfl rfl (by decide) (by decide) (fun r_ v_ H locs hw hP hD hS => ?_)
              obtain ⟨rfl, rfl⟩ := hw
              refine W.eq (g2 := F0 m 135 ls [.int (f_X4_go u (u.2.2.1 + u.2.2.2.2.2.1.toInt64)).1]) rfl ?_
              have hP : va_P (dC, dI) vwCl (Wm g0 g1 g2 cB cC (f_X4_go u (u.2.2.1 + u.2.2.2.2.2.1.toInt64)).2) H := hP
              have hD : va_D A (Wm g0 g1 g2 cB cC (f_X4_go u (u.2.2.1 + u.2.2.2.2.2.1.toInt64)).2) := hD
              have hF : f_X4_branch u p0 = ((f_X4_go u (u.2.2.1 + u.2.2.2.2.2.1.toInt64)).1, (f_X4_go u (u.2.2.1 + u.2.2.2.2.2.1.toInt64)).2) := by unfold f_X4_branch; rw [if_neg c1, if_neg c2, if_pos c3, if_pos c4, if_pos c5, if_neg c6]
              exact W.iret (v := (f_X4_go u (u.2.2.1 + u.2.2.2.2.2.1.toInt64)).1) hx hb hr (fun t ht hW => ⟨⟨(f_X4_go u (u.2.2.1 + u.2.2.2.2.2.1.toInt64)).1, (f_X4_go u (u.2.2.1 + u.2.2.2.2.2.1.toInt64)).2, rfl, ⟨(congrArg Prod.fst hF).symm, (congrArg Prod.snd hF).symm⟩, by rw [ht]; exact hP, va_K.moved hW.alike hK, hD⟩, hS.F ht⟩) hS.2.2 dX4_branch_135
            · refine lv_iconst (v := (1 : Int32)) hx hb dX4_branch_99 (by decide) ?_
              refine lv_goto (tgt := 104) hx hb dX4_branch_100 (by decide) ?_
              refine lv_istore_n (lv' := [(3, .int (1 : Int32)), (2, .int (f_X4_isLess u.2.2.2.2.2.2.1 u.2.2.2.2.2.2.2.1)), (0, .ref g0), (1, .int p0)]) hx hb dX4_branch_104 rfl hl (by decide) rfl (fun ls hl => ?_)
              refine lv_aload_n hx hb dX4_branch_105 rfl (lv_at hl 2 rfl) ?_
              refine lv_iload_n hx hb dX4_branch_106 rfl (lv_at hl 0 rfl) ?_
              refine lv_if_eq (tgt := 122) hx hb dX4_branch_107 (by decide) (fun c_ => absurd c_ (by decide)) (fun _ => ?_)
              refine lv_aload_n hx hb dX4_branch_110 rfl (lv_at hl 2 rfl) ?_
              refine va_get (D := (dC, dI)) (ci := 1) (v := .long u.2.2.1) (C := RX4) (T := TX4) (N := 13) hx hb hts inX4 hown hK hP 0 rfl rfl 2 (by decide) (hts _ qw_281) (fun _ h9 => h9) rfl dX4_branch_111 ?_
              refine lv_aload_n hx hb dX4_branch_114 rfl (lv_at hl 2 rfl) ?_
              refine W.callV (W.runV (As := []) (rest := [.long u.2.2.1, .ref g0]) ⟨hx, hb, hml, hown, hts⟩ (mt_X4_immediateB l dC dI g0 g1 g2 cB cC u ) (cwV 0 hts gX4_87_X4_immediateB rfl rfl rfl (by decide +kernel) ⟨Nat.le_of_ble_eq_true rfl, Nat.le_of_ble_eq_true rfl⟩) (rd_V hK hP (ci := 1) (q0 := 0) rfl rfl rfl) rfl rfl hl.1 rfl (lv_room (Nat.le_of_ble_eq_true rfl)) dX4_branch_115 ⟨Nat.le_of_ble_eq_true rfl, Nat.le_of_ble_eq_true rfl⟩) ?_
              refine W.eq (g2 := F0 m 118 ls [.long (f_X4_immediateB u), .long u.2.2.1, .ref g0]) rfl ?_
              refine lv_ladd hx hb dX4_branch_118 ?_
              refine lv_goto (tgt := 132) hx hb dX4_branch_119 (by decide) ?_
              refine wr_calli (wr := []) (va_runV (As := [.long (u.2.2.1 + (f_X4_immediateB u))]) (rest := []) ⟨hx, hb, hml, hown, hts⟩ (mt_X4_go l dC dI g0 g1 g2 cB cC s.heap.size u (u.2.2.1 + (f_X4_immediateB u))) (cwV 1 hts gX4_91_X4_go rfl rfl rfl (by decide +kernel) ⟨Nat.le_of_ble_eq_true rfl, Nat.le_of_ble_eq_true rfl⟩) (wr_V hK hP hD (ci := 1) (q0 := 0) rfl rfl rfl) rfl rfl hl.1 rfl (lv_room (Nat.le_of_ble_eq_true rfl)) dX4_branch_132 ⟨Nat.le_of_ble_eq_true rfl, Nat.le_of_ble_eq_true rfl⟩) hS hP hD hA [0, 1, 2] [] rfl rfl (by decide) (by decide) (fun r_ v_ H locs hw hP hD hS => ?_)
              obtain ⟨rfl, rfl⟩ := hw
              refine W.eq (g2 := F0 m 135 ls [.int (f_X4_go u (u.2.2.1 + (f_X4_immediateB u))).1]) rfl ?_
              have hP : va_P (dC, dI) vwCl (Wm g0 g1 g2 cB cC (f_X4_go u (u.2.2.1 + (f_X4_immediateB u))).2) H := hP
              have hD : va_D A (Wm g0 g1 g2 cB cC (f_X4_go u (u.2.2.1 + (f_X4_immediateB u))).2) := hD
              have hF : f_X4_branch u p0 = ((f_X4_go u (u.2.2.1 + (f_X4_immediateB u))).1, (f_X4_go u (u.2.2.1 + (f_X4_immediateB u))).2) := by unfold f_X4_branch; rw [if_neg c1, if_neg c2, if_pos c3, if_pos c4, if_pos c5, if_pos c6]
              exact W.iret (v := (f_X4_go u (u.2.2.1 + (f_X4_immediateB u))).1) hx hb hr (fun t ht hW => ⟨⟨(f_X4_go u (u.2.2.1 + (f_X4_immediateB u))).1, (f_X4_go u (u.2.2.1 + (f_X4_immediateB u))).2, rfl, ⟨(congrArg Prod.fst hF).symm, (congrArg Prod.snd hF).symm⟩, by rw [ht]; exact hP, va_K.moved hW.alike hK, hD⟩, hS.F ht⟩) hS.2.2 dX4_branch_135
          · refine lv_iload_n hx hb dX4_branch_80 rfl (lv_at hl 2 rfl) ?_
            refine lv_iconst (v := (4 : Int32)) hx hb dX4_branch_81 (by decide) ?_
            refine lv_icmp_eq (tgt := 91) hx hb dX4_branch_82 (by decide) (fun c7 => ?_) (fun c7 => ?_)
            · refine lv_iconst (v := (1 : Int32)) hx hb dX4_branch_91 (by decide) ?_
              refine lv_goto (tgt := 96) hx hb dX4_branch_92 (by decide) ?_
              refine lv_icmp_ne (tgt := 103) hx hb dX4_branch_96 (by decide) (fun c8 => ?_) (fun c8 => ?_)
              · refine lv_iconst (v := (0 : Int32)) hx hb dX4_branch_103 (by decide) ?_
                refine lv_istore_n (lv' := [(3, .int (0 : Int32)), (2, .int (f_X4_isLess u.2.2.2.2.2.2.1 u.2.2.2.2.2.2.2.1)), (0, .ref g0), (1, .int p0)]) hx hb dX4_branch_104 rfl hl (by decide) rfl (fun ls hl => ?_)
                refine lv_aload_n hx hb dX4_branch_105 rfl (lv_at hl 2 rfl) ?_
                refine lv_iload_n hx hb dX4_branch_106 rfl (lv_at hl 0 rfl) ?_
                refine lv_if_eq (tgt := 122) hx hb dX4_branch_107 (by decide) (fun _ => ?_) (fun c_ => absurd c_ (by decide))
                refine lv_aload_n hx hb dX4_branch_122 rfl (lv_at hl 2 rfl) ?_
                refine va_get (D := (dC, dI)) (ci := 1) (v := .long u.2.2.1) (C := RX4) (T := TX4) (N := 13) hx hb hts inX4 hown hK hP 0 rfl rfl 2 (by decide) (hts _ qw_281) (fun _ h9 => h9) rfl dX4_branch_123 ?_
                refine lv_aload_n hx hb dX4_branch_126 rfl (lv_at hl 2 rfl) ?_
                refine va_get (D := (dC, dI)) (ci := 1) (v := .int u.2.2.2.2.2.1) (C := RX4) (T := TX4) (N := 13) hx hb hts inX4 hown hK hP 0 rfl rfl 5 (by decide) (hts _ qw_284) (fun _ h9 => h9) rfl dX4_branch_127 ?_
                refine lv_i2l (v := u.2.2.2.2.2.1.toInt64) hx hb dX4_branch_130 rfl ?_
                refine lv_ladd hx hb dX4_branch_131 ?_
                refine wr_calli (wr := []) (va_runV (As := [.long (u.2.2.1 + u.2.2.2.2.2.1.toInt64)]) (rest := []) ⟨hx, hb, hml, hown, hts⟩ (mt_X4_go l dC dI g0 g1 g2 cB cC s.heap.size u (u.2.2.1 + u.2.2.2.2.2.1.toInt64)) (cwV 1 hts gX4_91_X4_go rfl rfl rfl (by decide +kernel) ⟨Nat.le_of_ble_eq_true rfl, Nat.le_of_ble_eq_true rfl⟩) (wr_V hK hP hD (ci := 1) (q0 := 0) rfl rfl rfl) rfl rfl hl.1 rfl (lv_room (Nat.le_of_ble_eq_true rfl)) dX4_branch_132 ⟨Nat.le_of_ble_eq_true rfl, Nat.le_of_ble_eq_true rfl⟩) hS hP hD hA [0, 1, 2] [] rfl rfl (by decide) (by decide) (fun r_ v_ H locs hw hP hD hS => ?_)
                obtain ⟨rfl, rfl⟩ := hw
                refine W.eq (g2 := F0 m 135 ls [.int (f_X4_go u (u.2.2.1 + u.2.2.2.2.2.1.toInt64)).1]) rfl ?_
                have hP : va_P (dC, dI) vwCl (Wm g0 g1 g2 cB cC (f_X4_go u (u.2.2.1 + u.2.2.2.2.2.1.toInt64)).2) H := hP
                have hD : va_D A (Wm g0 g1 g2 cB cC (f_X4_go u (u.2.2.1 + u.2.2.2.2.2.1.toInt64)).2) := hD
                have hF : f_X4_branch u p0 = ((f_X4_go u (u.2.2.1 + u.2.2.2.2.2.1.toInt64)).1, (f_X4_go u (u.2.2.1 + u.2.2.2.2.2.1.toInt64)).2) := by unfold f_X4_branch; rw [if_neg c1, if_neg c2, if_pos c3, if_pos c4, if_neg c5, if_pos c7, if_neg c8]
                exact W.iret (v := (f_X4_go u (u.2.2.1 + u.2.2.2.2.2.1.toInt64)).1) hx hb hr (fun t ht hW => ⟨⟨(f_X4_go u (u.2.2.1 + u.2.2.2.2.2.1.toInt64)).1, (f_X4_go u (u.2.2.1 + u.2.2.2.2.2.1.toInt64)).2, rfl, ⟨(congrArg Prod.fst hF).symm, (congrArg Prod.snd hF).symm⟩, by rw [ht]; exact hP, va_K.moved hW.alike hK, hD⟩, hS.F ht⟩) hS.2.2 dX4_branch_135
              · refine lv_iconst (v := (1 : Int32)) hx hb dX4_branch_99 (by decide) ?_
                refine lv_goto (tgt := 104) hx hb dX4_branch_100 (by decide) ?_
                refine lv_istore_n (lv' := [(3, .int (1 : Int32)), (2, .int (f_X4_isLess u.2.2.2.2.2.2.1 u.2.2.2.2.2.2.2.1)), (0, .ref g0), (1, .int p0)]) hx hb dX4_branch_104 rfl hl (by decide) rfl (fun ls hl => ?_)
                refine lv_aload_n hx hb dX4_branch_105 rfl (lv_at hl 2 rfl) ?_
                refine lv_iload_n hx hb dX4_branch_106 rfl (lv_at hl 0 rfl) ?_
                refine lv_if_eq (tgt := 122) hx hb dX4_branch_107 (by decide) (fun c_ => absurd c_ (by decide)) (fun _ => ?_)
                refine lv_aload_n hx hb dX4_branch_110 rfl (lv_at hl 2 rfl) ?_
                refine va_get (D := (dC, dI)) (ci := 1) (v := .long u.2.2.1) (C := RX4) (T := TX4) (N := 13) hx hb hts inX4 hown hK hP 0 rfl rfl 2 (by decide) (hts _ qw_281) (fun _ h9 => h9) rfl dX4_branch_111 ?_
                refine lv_aload_n hx hb dX4_branch_114 rfl (lv_at hl 2 rfl) ?_
                refine W.callV (W.runV (As := []) (rest := [.long u.2.2.1, .ref g0]) ⟨hx, hb, hml, hown, hts⟩ (mt_X4_immediateB l dC dI g0 g1 g2 cB cC u ) (cwV 0 hts gX4_87_X4_immediateB rfl rfl rfl (by decide +kernel) ⟨Nat.le_of_ble_eq_true rfl, Nat.le_of_ble_eq_true rfl⟩) (rd_V hK hP (ci := 1) (q0 := 0) rfl rfl rfl) rfl rfl hl.1 rfl (lv_room (Nat.le_of_ble_eq_true rfl)) dX4_branch_115 ⟨Nat.le_of_ble_eq_true rfl, Nat.le_of_ble_eq_true rfl⟩) ?_
                refine W.eq (g2 := F0 m 118 ls [.long (f_X4_immediateB u), .long u.2.2.1, .ref g0]) rfl ?_
                refine lv_ladd hx hb dX4_branch_118 ?_
                refine lv_goto (tgt := 132) hx hb dX4_branch_119 (by decide) ?_
                refine wr_calli (wr := []) (va_runV (As := [.long (u.2.2.1 + (f_X4_immediateB u))]) (rest := []) ⟨hx, hb, hml, hown, hts⟩ (mt_X4_go l dC dI g0 g1 g2 cB cC s.heap.size u (u.2.2.1 + (f_X4_immediateB u))) (cwV 1 hts gX4_91_X4_go rfl rfl rfl (by decide +kernel) ⟨Nat.le_of_ble_eq_true rfl, Nat.le_of_ble_eq_true rfl⟩) (wr_V hK hP hD (ci := 1) (q0 := 0) rfl rfl rfl) rfl rfl hl.1 rfl (lv_room (Nat.le_of_ble_eq_true rfl)) dX4_branch_132 ⟨Nat.le_of_ble_eq_true rfl, Nat.le_of_ble_eq_true rfl⟩) hS hP hD hA [0, 1, 2] [] rfl rfl (by decide) (by decide) (fun r_ v_ H locs hw hP hD hS => ?_)
                obtain ⟨rfl, rfl⟩ := hw
                refine W.eq (g2 := F0 m 135 ls [.int (f_X4_go u (u.2.2.1 + (f_X4_immediateB u))).1]) rfl ?_
                have hP : va_P (dC, dI) vwCl (Wm g0 g1 g2 cB cC (f_X4_go u (u.2.2.1 + (f_X4_immediateB u))).2) H := hP
                have hD : va_D A (Wm g0 g1 g2 cB cC (f_X4_go u (u.2.2.1 + (f_X4_immediateB u))).2) := hD
                have hF : f_X4_branch u p0 = ((f_X4_go u (u.2.2.1 + (f_X4_immediateB u))).1, (f_X4_go u (u.2.2.1 + (f_X4_immediateB u))).2) := by unfold f_X4_branch; rw [if_neg c1, if_neg c2, if_pos c3, if_pos c4, if_neg c5, if_pos c7, if_pos c8]
                exact W.iret (v := (f_X4_go u (u.2.2.1 + (f_X4_immediateB u))).1) hx hb hr (fun t ht hW => ⟨⟨(f_X4_go u (u.2.2.1 + (f_X4_immediateB u))).1, (f_X4_go u (u.2.2.1 + (f_X4_immediateB u))).2, rfl, ⟨(congrArg Prod.fst hF).symm, (congrArg Prod.snd hF).symm⟩, by rw [ht]; exact hP, va_K.moved hW.alike hK, hD⟩, hS.F ht⟩) hS.2.2 dX4_branch_135
            · refine lv_iload_n hx hb dX4_branch_85 rfl (lv_at hl 2 rfl) ?_
              refine lv_bipush (v := (6 : Int32)) hx hb dX4_branch_86 (by decide) ?_
              refine lv_icmp_ne (tgt := 95) hx hb dX4_branch_88 (by decide) (fun c9 => ?_) (fun c9 => ?_)
              · refine lv_iconst (v := (0 : Int32)) hx hb dX4_branch_95 (by decide) ?_
                refine lv_icmp_ne (tgt := 103) hx hb dX4_branch_96 (by decide) (fun c10 => ?_) (fun c10 => ?_)
                · refine lv_iconst (v := (0 : Int32)) hx hb dX4_branch_103 (by decide) ?_
                  refine lv_istore_n (lv' := [(3, .int (0 : Int32)), (2, .int (f_X4_isLess u.2.2.2.2.2.2.1 u.2.2.2.2.2.2.2.1)), (0, .ref g0), (1, .int p0)]) hx hb dX4_branch_104 rfl hl (by decide) rfl (fun ls hl => ?_)
                  refine lv_aload_n hx hb dX4_branch_105 rfl (lv_at hl 2 rfl) ?_
                  refine lv_iload_n hx hb dX4_branch_106 rfl (lv_at hl 0 rfl) ?_
                  refine lv_if_eq (tgt := 122) hx hb dX4_branch_107 (by decide) (fun _ => ?_) (fun c_ => absurd c_ (by decide))
                  refine lv_aload_n hx hb dX4_branch_122 rfl (lv_at hl 2 rfl) ?_
                  refine va_get (D := (dC, dI)) (ci := 1) (v := .long u.2.2.1) (C := RX4) (T := TX4) (N := 13) hx hb hts inX4 hown hK hP 0 rfl rfl 2 (by decide) (hts _ qw_281) (fun _ h9 => h9) rfl dX4_branch_123 ?_
                  refine lv_aload_n hx hb dX4_branch_126 rfl (lv_at hl 2 rfl) ?_
                  refine va_get (D := (dC, dI)) (ci := 1) (v := .int u.2.2.2.2.2.1) (C := RX4) (T := TX4) (N := 13) hx hb hts inX4 hown hK hP 0 rfl rfl 5 (by decide) (hts _ qw_284) (fun _ h9 => h9) rfl dX4_branch_127 ?_
                  refine lv_i2l (v := u.2.2.2.2.2.1.toInt64) hx hb dX4_branch_130 rfl ?_
                  refine lv_ladd hx hb dX4_branch_131 ?_
                  refine wr_calli (wr := []) (va_runV (As := [.long (u.2.2.1 + u.2.2.2.2.2.1.toInt64)]) (rest := []) ⟨hx, hb, hml, hown, hts⟩ (mt_X4_go l dC dI g0 g1 g2 cB cC s.heap.size u (u.2.2.1 + u.2.2.2.2.2.1.toInt64)) (cwV 1 hts gX4_91_X4_go rfl rfl rfl (by decide +kernel) ⟨Nat.le_of_ble_eq_true rfl, Nat.le_of_ble_eq_true rfl⟩) (wr_V hK hP hD (ci := 1) (q0 := 0) rfl rfl rfl) rfl rfl hl.1 rfl (lv_room (Nat.le_of_ble_eq_true rfl)) dX4_branch_132 ⟨Nat.le_of_ble_eq_true rfl, Nat.le_of_ble_eq_true rfl⟩) hS hP hD hA [0, 1, 2] [] rfl rfl (by decide) (by decide) (fun r_ v_ H locs hw hP hD hS => ?_)
                  obtain ⟨rfl, rfl⟩ := hw
                  refine W.eq (g2 := F0 m 135 ls [.int (f_X4_go u (u.2.2.1 + u.2.2.2.2.2.1.toInt64)).1]) rfl ?_
                  have hP : va_P (dC, dI) vwCl (Wm g0 g1 g2 cB cC (f_X4_go u (u.2.2.1 + u.2.2.2.2.2.1.toInt64)).2) H := hP
                  have hD : va_D A (Wm g0 g1 g2 cB cC (f_X4_go u (u.2.2.1 + u.2.2.2.2.2.1.toInt64)).2) := hD
                  have hF : f_X4_branch u p0 = ((f_X4_go u (u.2.2.1 + u.2.2.2.2.2.1.toInt64)).1, (f_X4_go u (u.2.2.1 + u.2.2.2.2.2.1.toInt64)).2) := by unfold f_X4_branch; rw [if_neg c1, if_neg c2, if_pos c3, if_pos c4, if_neg c5, if_neg c7, if_neg c9, if_neg c10]
                  exact W.iret (v := (f_X4_go u (u.2.2.1 + u.2.2.2.2.2.1.toInt64)).1) hx hb hr (fun t ht hW => ⟨⟨(f_X4_go u (u.2.2.1 + u.2.2.2.2.2.1.toInt64)).1, (f_X4_go u (u.2.2.1 + u.2.2.2.2.2.1.toInt64)).2, rfl, ⟨(congrArg Prod.fst hF).symm, (congrArg Prod.snd hF).symm⟩, by rw [ht]; exact hP, va_K.moved hW.alike hK, hD⟩, hS.F ht⟩) hS.2.2 dX4_branch_135
                · refine lv_iconst (v := (1 : Int32)) hx hb dX4_branch_99 (by decide) ?_
                  refine lv_goto (tgt := 104) hx hb dX4_branch_100 (by decide) ?_
                  refine lv_istore_n (lv' := [(3, .int (1 : Int32)), (2, .int (f_X4_isLess u.2.2.2.2.2.2.1 u.2.2.2.2.2.2.2.1)), (0, .ref g0), (1, .int p0)]) hx hb dX4_branch_104 rfl hl (by decide) rfl (fun ls hl => ?_)
                  refine lv_aload_n hx hb dX4_branch_105 rfl (lv_at hl 2 rfl) ?_
                  refine lv_iload_n hx hb dX4_branch_106 rfl (lv_at hl 0 rfl) ?_
                  refine lv_if_eq (tgt := 122) hx hb dX4_branch_107 (by decide) (fun c_ => absurd c_ (by decide)) (fun _ => ?_)
                  refine lv_aload_n hx hb dX4_branch_110 rfl (lv_at hl 2 rfl) ?_
                  refine va_get (D := (dC, dI)) (ci := 1) (v := .long u.2.2.1) (C := RX4) (T := TX4) (N := 13) hx hb hts inX4 hown hK hP 0 rfl rfl 2 (by decide) (hts _ qw_281) (fun _ h9 => h9) rfl dX4_branch_111 ?_
                  refine lv_aload_n hx hb dX4_branch_114 rfl (lv_at hl 2 rfl) ?_
                  refine W.callV (W.runV (As := []) (rest := [.long u.2.2.1, .ref g0]) ⟨hx, hb, hml, hown, hts⟩ (mt_X4_immediateB l dC dI g0 g1 g2 cB cC u ) (cwV 0 hts gX4_87_X4_immediateB rfl rfl rfl (by decide +kernel) ⟨Nat.le_of_ble_eq_true rfl, Nat.le_of_ble_eq_true rfl⟩) (rd_V hK hP (ci := 1) (q0 := 0) rfl rfl rfl) rfl rfl hl.1 rfl (lv_room (Nat.le_of_ble_eq_true rfl)) dX4_branch_115 ⟨Nat.le_of_ble_eq_true rfl, Nat.le_of_ble_eq_true rfl⟩) ?_
                  refine W.eq (g2 := F0 m 118 ls [.long (f_X4_immediateB u), .long u.2.2.1, .ref g0]) rfl ?_
                  refine lv_ladd hx hb dX4_branch_118 ?_
                  refine lv_goto (tgt := 132) hx hb dX4_branch_119 (by decide) ?_
                  refine wr_calli (wr := []) (va_runV (As := [.long (u.2.2.1 + (f_X4_immediateB u))]) (rest := []) ⟨hx, hb, hml, hown, hts⟩ (mt_X4_go l dC dI g0 g1 g2 cB cC s.heap.size u (u.2.2.1 + (f_X4_immediateB u))) (cwV 1 hts gX4_91_X4_go rfl rfl rfl (by decide +kernel) ⟨Nat.le_of_ble_eq_true rfl, Nat.le_of_ble_eq_true rfl⟩) (wr_V hK hP hD (ci := 1) (q0 := 0) rfl rfl rfl) rfl rfl hl.1 rfl (lv_room (Nat.le_of_ble_eq_true rfl)) dX4_branch_132 ⟨Nat.le_of_ble_eq_true rfl, Nat.le_of_ble_eq_true rfl⟩) hS hP hD hA [0, 1, 2] [] rfl rfl (by decide) (by decide) (fun r_ v_ H locs hw hP hD hS => ?_)
                  obtain ⟨rfl, rfl⟩ := hw
                  refine W.eq (g2 := F0 m 135 ls [.int (f_X4_go u (u.2.2.1 + (f_X4_immediateB u))).1]) rfl ?_
                  have hP : va_P (dC, dI) vwCl (Wm g0 g1 g2 cB cC (f_X4_go u (u.2.2.1 + (f_X4_immediateB u))).2) H := hP
                  have hD : va_D A (Wm g0 g1 g2 cB cC (f_X4_go u (u.2.2.1 + (f_X4_immediateB u))).2) := hD
                  have hF : f_X4_branch u p0 = ((f_X4_go u (u.2.2.1 + (f_X4_immediateB u))).1, (f_X4_go u (u.2.2.1 + (f_X4_immediateB u))).2) := by unfold f_X4_branch; rw [if_neg c1, if_neg c2, if_pos c3, if_pos c4, if_neg c5, if_neg c7, if_neg c9, if_pos c10]
                  exact W.iret (v := (f_X4_go u (u.2.2.1 + (f_X4_immediateB u))).1) hx hb hr (fun t ht hW => ⟨⟨(f_X4_go u (u.2.2.1 + (f_X4_immediateB u))).1, (f_X4_go u (u.2.2.1 + (f_X4_immediateB u))).2, rfl, ⟨(congrArg Prod.fst hF).symm, (congrArg Prod.snd hF).symm⟩, by rw [ht]; exact hP, va_K.moved hW.alike hK, hD⟩, hS.F ht⟩) hS.2.2 dX4_branch_135
              · refine lv_iconst (v := (1 : Int32)) hx hb dX4_branch_91 (by decide) ?_
                refine lv_goto (tgt := 96) hx hb dX4_branch_92 (by decide) ?_
                refine lv_icmp_ne (tgt := 103) hx hb dX4_branch_96 (by decide) (fun c11 => ?_) (fun c11 => ?_)
                · refine lv_iconst (v := (0 : Int32)) hx hb dX4_branch_103 (by decide) ?_
                  refine lv_istore_n (lv' := [(3, .int (0 : Int32)), (2, .int (f_X4_isLess u.2.2.2.2.2.2.1 u.2.2.2.2.2.2.2.1)), (0, .ref g0), (1, .int p0)]) hx hb dX4_branch_104 rfl hl (by decide) rfl (fun ls hl => ?_)
                  refine lv_aload_n hx hb dX4_branch_105 rfl (lv_at hl 2 rfl) ?_
                  refine lv_iload_n hx hb dX4_branch_106 rfl (lv_at hl 0 rfl) ?_
                  refine lv_if_eq (tgt := 122) hx hb dX4_branch_107 (by decide) (fun _ => ?_) (fun c_ => absurd c_ (by decide))
                  refine lv_aload_n hx hb dX4_branch_122 rfl (lv_at hl 2 rfl) ?_
                  refine va_get (D := (dC, dI)) (ci := 1) (v := .long u.2.2.1) (C := RX4) (T := TX4) (N := 13) hx hb hts inX4 hown hK hP 0 rfl rfl 2 (by decide) (hts _ qw_281) (fun _ h9 => h9) rfl dX4_branch_123 ?_
                  refine lv_aload_n hx hb dX4_branch_126 rfl (lv_at hl 2 rfl) ?_
                  refine va_get (D := (dC, dI)) (ci := 1) (v := .int u.2.2.2.2.2.1) (C := RX4) (T := TX4) (N := 13) hx hb hts inX4 hown hK hP 0 rfl rfl 5 (by decide) (hts _ qw_284) (fun _ h9 => h9) rfl dX4_branch_127 ?_
                  refine lv_i2l (v := u.2.2.2.2.2.1.toInt64) hx hb dX4_branch_130 rfl ?_
                  refine lv_ladd hx hb dX4_branch_131 ?_
                  refine wr_calli (wr := []) (va_runV (As := [.long (u.2.2.1 + u.2.2.2.2.2.1.toInt64)]) (rest := []) ⟨hx, hb, hml, hown, hts⟩ (mt_X4_go l dC dI g0 g1 g2 cB cC s.heap.size u (u.2.2.1 + u.2.2.2.2.2.1.toInt64)) (cwV 1 hts gX4_91_X4_go rfl rfl rfl (by decide +kernel) ⟨Nat.le_of_ble_eq_true rfl, Nat.le_of_ble_eq_true rfl⟩) (wr_V hK hP hD (ci := 1) (q0 := 0) rfl rfl rfl) rfl rfl hl.1 rfl (lv_room (Nat.le_of_ble_eq_true rfl)) dX4_branch_132 ⟨Nat.le_of_ble_eq_true rfl, Nat.le_of_ble_eq_true rfl⟩) hS hP hD hA [0, 1, 2] [] rfl rfl (by decide) (by decide) (fun r_ v_ H locs hw hP hD hS => ?_)
                  obtain ⟨rfl, rfl⟩ := hw
                  refine W.eq (g2 := F0 m 135 ls [.int (f_X4_go u (u.2.2.1 + u.2.2.2.2.2.1.toInt64)).1]) rfl ?_
                  have hP : va_P (dC, dI) vwCl (Wm g0 g1 g2 cB cC (f_X4_go u (u.2.2.1 + u.2.2.2.2.2.1.toInt64)).2) H := hP
                  have hD : va_D A (Wm g0 g1 g2 cB cC (f_X4_go u (u.2.2.1 + u.2.2.2.2.2.1.toInt64)).2) := hD
                  have hF : f_X4_branch u p0 = ((f_X4_go u (u.2.2.1 + u.2.2.2.2.2.1.toInt64)).1, (f_X4_go u (u.2.2.1 + u.2.2.2.2.2.1.toInt64)).2) := by unfold f_X4_branch; rw [if_neg c1, if_neg c2, if_pos c3, if_pos c4, if_neg c5, if_neg c7, if_pos c9, if_neg c11]
                  exact W.iret (v := (f_X4_go u (u.2.2.1 + u.2.2.2.2.2.1.toInt64)).1) hx hb hr (fun t ht hW => ⟨⟨(f_X4_go u (u.2.2.1 + u.2.2.2.2.2.1.toInt64)).1, (f_X4_go u (u.2.2.1 + u.2.2.2.2.2.1.toInt64)).2, rfl, ⟨(congrArg Prod.fst hF).symm, (congrArg Prod.snd hF).symm⟩, by rw [ht]; exact hP, va_K.moved hW.alike hK, hD⟩, hS.F ht⟩) hS.2.2 dX4_branch_135
                · refine lv_iconst (v := (1 : Int32)) hx hb dX4_branch_99 (by decide) ?_
                  refine lv_goto (tgt := 104) hx hb dX4_branch_100 (by decide) ?_
                  refine lv_istore_n (lv' := [(3, .int (1 : Int32)), (2, .int (f_X4_isLess u.2.2.2.2.2.2.1 u.2.2.2.2.2.2.2.1)), (0, .ref g0), (1, .int p0)]) hx hb dX4_branch_104 rfl hl (by decide) rfl (fun ls hl => ?_)
                  refine lv_aload_n hx hb dX4_branch_105 rfl (lv_at hl 2 rfl) ?_
                  refine lv_iload_n hx hb dX4_branch_106 rfl (lv_at hl 0 rfl) ?_
                  refine lv_if_eq (tgt := 122) hx hb dX4_branch_107 (by decide) (fun c_ => absurd c_ (by decide)) (fun _ => ?_)
                  refine lv_aload_n hx hb dX4_branch_110 rfl (lv_at hl 2 rfl) ?_
                  refine va_get (D := (dC, dI)) (ci := 1) (v := .long u.2.2.1) (C := RX4) (T := TX4) (N := 13) hx hb hts inX4 hown hK hP 0 rfl rfl 2 (by decide) (hts _ qw_281) (fun _ h9 => h9) rfl dX4_branch_111 ?_
                  refine lv_aload_n hx hb dX4_branch_114 rfl (lv_at hl 2 rfl) ?_
                  refine W.callV (W.runV (As := []) (rest := [.long u.2.2.1, .ref g0]) ⟨hx, hb, hml, hown, hts⟩ (mt_X4_immediateB l dC dI g0 g1 g2 cB cC u ) (cwV 0 hts gX4_87_X4_immediateB rfl rfl rfl (by decide +kernel) ⟨Nat.le_of_ble_eq_true rfl, Nat.le_of_ble_eq_true rfl⟩) (rd_V hK hP (ci := 1) (q0 := 0) rfl rfl rfl) rfl rfl hl.1 rfl (lv_room (Nat.le_of_ble_eq_true rfl)) dX4_branch_115 ⟨Nat.le_of_ble_eq_true rfl, Nat.le_of_ble_eq_true rfl⟩) ?_
                  refine W.eq (g2 := F0 m 118 ls [.long (f_X4_immediateB u), .long u.2.2.1, .ref g0]) rfl ?_
                  refine lv_ladd hx hb dX4_branch_118 ?_
                  refine lv_goto (tgt := 132) hx hb dX4_branch_119 (by decide) ?_
                  refine wr_calli (wr := []) (va_runV (As := [.long (u.2.2.1 + (f_X4_immediateB u))]) (rest := []) ⟨hx, hb, hml, hown, hts⟩ (mt_X4_go l dC dI g0 g1 g2 cB cC s.heap.size u (u.2.2.1 + (f_X4_immediateB u))) (cwV 1 hts gX4_91_X4_go rfl rfl rfl (by decide +kernel) ⟨Nat.le_of_ble_eq_true rfl, Nat.le_of_ble_eq_true rfl⟩) (wr_V hK hP hD (ci := 1) (q0 := 0) rfl rfl rfl) rfl rfl hl.1 rfl (lv_room (Nat.le_of_ble_eq_true rfl)) dX4_branch_132 ⟨Nat.le_of_ble_eq_true rfl, Nat.le_of_ble_eq_true rfl⟩) hS hP hD hA [0, 1, 2] [] rfl rfl (by decide) (by decide) (fun r_ v_ H locs hw hP hD hS => ?_)
                  obtain ⟨rfl, rfl⟩ := hw
                  refine W.eq (g2 := F0 m 135 ls [.int (f_X4_go u (u.2.2.1 + (f_X4_immediateB u))).1]) rfl ?_
                  have hP : va_P (dC, dI) vwCl (Wm g0 g1 g2 cB cC (f_X4_go u (u.2.2.1 + (f_X4_immediateB u))).2) H := hP
                  have hD : va_D A (Wm g0 g1 g2 cB cC (f_X4_go u (u.2.2.1 + (f_X4_immediateB u))).2) := hD
                  have hF : f_X4_branch u p0 = ((f_X4_go u (u.2.2.1 + (f_X4_immediateB u))).1, (f_X4_go u (u.2.2.1 + (f_X4_immediateB u))).2) := by unfold f_X4_branch; rw [if_neg c1, if_neg c2, if_pos c3, if_pos c4, if_neg c5, if_neg c7, if_pos c9, if_pos c11]
                  exact W.iret (v := (f_X4_go u (u.2.2.1 + (f_X4_immediateB u))).1) hx hb hr (fun t ht hW => ⟨⟨(f_X4_go u (u.2.2.1 + (f_X4_immediateB u))).1, (f_X4_go u (u.2.2.1 + (f_X4_immediateB u))).2, rfl, ⟨(congrArg Prod.fst hF).symm, (congrArg Prod.snd hF).symm⟩, by rw [ht]; exact hP, va_K.moved hW.alike hK, hD⟩, hS.F ht⟩) hS.2.2 dX4_branch_135
        · refine lv_aload_n hx hb dX4_branch_43 rfl (lv_at hl 0 rfl) ?_
          refine va_get (D := (dC, dI)) (ci := 1) (v := .long u.2.2.2.2.2.2.1) (C := RX4) (T := TX4) (N := 13) hx hb hts inX4 hown hK hP 0 rfl rfl 6 (by decide) (hts _ qw_287) (fun _ h9 => h9) rfl dX4_branch_44 ?_
          refine lv_aload_n hx hb dX4_branch_47 rfl (lv_at hl 0 rfl) ?_
          refine va_get (D := (dC, dI)) (ci := 1) (v := .long u.2.2.2.2.2.2.2.1) (C := RX4) (T := TX4) (N := 13) hx hb hts inX4 hown hK hP 0 rfl rfl 7 (by decide) (hts _ qw_288) (fun _ h9 => h9) rfl dX4_branch_48 ?_
          refine W.lcmp hx hb dX4_branch_51 ?_
          refine lv_if_ge (tgt := 59) hx hb dX4_branch_52 (by decide) (fun c12 => ?_) (fun c12 => ?_)
          · have c12 := (lg_cmp_ge u.2.2.2.2.2.2.1 u.2.2.2.2.2.2.2.1).mp c12
            refine lv_iconst (v := (0 : Int32)) hx hb dX4_branch_59 (by decide) ?_
            refine lv_goto (tgt := 74) hx hb dX4_branch_60 (by decide) ?_
            refine lv_istore_n (lv' := [(2, .int (0 : Int32)), (0, .ref g0), (1, .int p0)]) hx hb dX4_branch_74 rfl hl (by decide) rfl (fun ls hl => ?_)
            refine lv_iload_n hx hb dX4_branch_75 rfl (lv_at hl 0 rfl) ?_
            refine lv_iload_n hx hb dX4_branch_76 rfl (lv_at hl 2 rfl) ?_
            refine lv_if_eq (tgt := 91) hx hb dX4_branch_77 (by decide) (fun c13 => ?_) (fun c13 => ?_)
            · refine lv_iconst (v := (1 : Int32)) hx hb dX4_branch_91 (by decide) ?_
              refine lv_goto (tgt := 96) hx hb dX4_branch_92 (by decide) ?_
              refine lv_icmp_ne (tgt := 103) hx hb dX4_branch_96 (by decide) (fun c14 => ?_) (fun c14 => ?_)
              · refine lv_iconst (v := (0 : Int32)) hx hb dX4_branch_103 (by decide) ?_
                refine lv_istore_n (lv' := [(3, .int (0 : Int32)), (2, .int (0 : Int32)), (0, .ref g0), (1, .int p0)]) hx hb dX4_branch_104 rfl hl (by decide) rfl (fun ls hl => ?_)
                refine lv_aload_n hx hb dX4_branch_105 rfl (lv_at hl 2 rfl) ?_
                refine lv_iload_n hx hb dX4_branch_106 rfl (lv_at hl 0 rfl) ?_
                refine lv_if_eq (tgt := 122) hx hb dX4_branch_107 (by decide) (fun _ => ?_) (fun c_ => absurd c_ (by decide))
                refine lv_aload_n hx hb dX4_branch_122 rfl (lv_at hl 2 rfl) ?_
                refine va_get (D := (dC, dI)) (ci := 1) (v := .long u.2.2.1) (C := RX4) (T := TX4) (N := 13) hx hb hts inX4 hown hK hP 0 rfl rfl 2 (by decide) (hts _ qw_281) (fun _ h9 => h9) rfl dX4_branch_123 ?_
                refine lv_aload_n hx hb dX4_branch_126 rfl (lv_at hl 2 rfl) ?_
                refine va_get (D := (dC, dI)) (ci := 1) (v := .int u.2.2.2.2.2.1) (C := RX4) (T := TX4) (N := 13) hx hb hts inX4 hown hK hP 0 rfl rfl 5 (by decide) (hts _ qw_284) (fun _ h9 => h9) rfl dX4_branch_127 ?_
                refine lv_i2l (v := u.2.2.2.2.2.1.toInt64) hx hb dX4_branch_130 rfl ?_
                refine lv_ladd hx hb dX4_branch_131 ?_
                refine wr_calli (wr := []) (va_runV (As := [.long (u.2.2.1 + u.2.2.2.2.2.1.toInt64)]) (rest := []) ⟨hx, hb, hml, hown, hts⟩ (mt_X4_go l dC dI g0 g1 g2 cB cC s.heap.size u (u.2.2.1 + u.2.2.2.2.2.1.toInt64)) (cwV 1 hts gX4_91_X4_go rfl rfl rfl (by decide +kernel) ⟨Nat.le_of_ble_eq_true rfl, Nat.le_of_ble_eq_true rfl⟩) (wr_V hK hP hD (ci := 1) (q0 := 0) rfl rfl rfl) rfl rfl hl.1 rfl (lv_room (Nat.le_of_ble_eq_true rfl)) dX4_branch_132 ⟨Nat.le_of_ble_eq_true rfl, Nat.le_of_ble_eq_true rfl⟩) hS hP hD hA [0, 1, 2] [] rfl rfl (by decide) (by decide) (fun r_ v_ H locs hw hP hD hS => ?_)
                obtain ⟨rfl, rfl⟩ := hw
                refine W.eq (g2 := F0 m 135 ls [.int (f_X4_go u (u.2.2.1 + u.2.2.2.2.2.1.toInt64)).1]) rfl ?_
                have hP : va_P (dC, dI) vwCl (Wm g0 g1 g2 cB cC (f_X4_go u (u.2.2.1 + u.2.2.2.2.2.1.toInt64)).2) H := hP
                have hD : va_D A (Wm g0 g1 g2 cB cC (f_X4_go u (u.2.2.1 + u.2.2.2.2.2.1.toInt64)).2) := hD
                have hF : f_X4_branch u p0 = ((f_X4_go u (u.2.2.1 + u.2.2.2.2.2.1.toInt64)).1, (f_X4_go u (u.2.2.1 + u.2.2.2.2.2.1.toInt64)).2) := by unfold f_X4_branch; rw [if_neg c1, if_neg c2, if_pos c3, if_neg c4, if_pos c12, if_pos c13, if_neg c14]
                exact W.iret (v := (f_X4_go u (u.2.2.1 + u.2.2.2.2.2.1.toInt64)).1) hx hb hr (fun t ht hW => ⟨⟨(f_X4_go u (u.2.2.1 + u.2.2.2.2.2.1.toInt64)).1, (f_X4_go u (u.2.2.1 + u.2.2.2.2.2.1.toInt64)).2, rfl, ⟨(congrArg Prod.fst hF).symm, (congrArg Prod.snd hF).symm⟩, by rw [ht]; exact hP, va_K.moved hW.alike hK, hD⟩, hS.F ht⟩) hS.2.2 dX4_branch_135
              · refine lv_iconst (v := (1 : Int32)) hx hb dX4_branch_99 (by decide) ?_
                refine lv_goto (tgt := 104) hx hb dX4_branch_100 (by decide) ?_
                refine lv_istore_n (lv' := [(3, .int (1 : Int32)), (2, .int (0 : Int32)), (0, .ref g0), (1, .int p0)]) hx hb dX4_branch_104 rfl hl (by decide) rfl (fun ls hl => ?_)
                refine lv_aload_n hx hb dX4_branch_105 rfl (lv_at hl 2 rfl) ?_
                refine lv_iload_n hx hb dX4_branch_106 rfl (lv_at hl 0 rfl) ?_
                refine lv_if_eq (tgt := 122) hx hb dX4_branch_107 (by decide) (fun c_ => absurd c_ (by decide)) (fun _ => ?_)
                refine lv_aload_n hx hb dX4_branch_110 rfl (lv_at hl 2 rfl) ?_
                refine va_get (D := (dC, dI)) (ci := 1) (v := .long u.2.2.1) (C := RX4) (T := TX4) (N := 13) hx hb hts inX4 hown hK hP 0 rfl rfl 2 (by decide) (hts _ qw_281) (fun _ h9 => h9) rfl dX4_branch_111 ?_
                refine lv_aload_n hx hb dX4_branch_114 rfl (lv_at hl 2 rfl) ?_
                refine W.callV (W.runV (As := []) (rest := [.long u.2.2.1, .ref g0]) ⟨hx, hb, hml, hown, hts⟩ (mt_X4_immediateB l dC dI g0 g1 g2 cB cC u ) (cwV 0 hts gX4_87_X4_immediateB rfl rfl rfl (by decide +kernel) ⟨Nat.le_of_ble_eq_true rfl, Nat.le_of_ble_eq_true rfl⟩) (rd_V hK hP (ci := 1) (q0 := 0) rfl rfl rfl) rfl rfl hl.1 rfl (lv_room (Nat.le_of_ble_eq_true rfl)) dX4_branch_115 ⟨Nat.le_of_ble_eq_true rfl, Nat.le_of_ble_eq_true rfl⟩) ?_
                refine W.eq (g2 := F0 m 118 ls [.long (f_X4_immediateB u), .long u.2.2.1, .ref g0]) rfl ?_
                refine lv_ladd hx hb dX4_branch_118 ?_
                refine lv_goto (tgt := 132) hx hb dX4_branch_119 (by decide) ?_
                refine wr_calli (wr := []) (va_runV (As := [.long (u.2.2.1 + (f_X4_immediateB u))]) (rest := []) ⟨hx, hb, hml, hown, hts⟩ (mt_X4_go l dC dI g0 g1 g2 cB cC s.heap.size u (u.2.2.1 + (f_X4_immediateB u))) (cwV 1 hts gX4_91_X4_go rfl rfl rfl (by decide +kernel) ⟨Nat.le_of_ble_eq_true rfl, Nat.le_of_ble_eq_true rfl⟩) (wr_V hK hP hD (ci := 1) (q0 := 0) rfl rfl rfl) rfl rfl hl.1 rfl (lv_room (Nat.le_of_ble_eq_true rfl)) dX4_branch_132 ⟨Nat.le_of_ble_eq_true rfl, Nat.le_of_ble_eq_true rfl⟩) hS hP hD hA [0, 1, 2] [] rfl rfl (by decide) (by decide) (fun r_ v_ H locs hw hP hD hS => ?_)
                obtain ⟨rfl, rfl⟩ := hw
                refine W.eq (g2 := F0 m 135 ls [.int (f_X4_go u (u.2.2.1 + (f_X4_immediateB u))).1]) rfl ?_
                have hP : va_P (dC, dI) vwCl (Wm g0 g1 g2 cB cC (f_X4_go u (u.2.2.1 + (f_X4_immediateB u))).2) H := hP
                have hD : va_D A (Wm g0 g1 g2 cB cC (f_X4_go u (u.2.2.1 + (f_X4_immediateB u))).2) := hD
                have hF : f_X4_branch u p0 = ((f_X4_go u (u.2.2.1 + (f_X4_immediateB u))).1, (f_X4_go u (u.2.2.1 + (f_X4_immediateB u))).2) := by unfold f_X4_branch; rw [if_neg c1, if_neg c2, if_pos c3, if_neg c4, if_pos c12, if_pos c13, if_pos c14]
                exact W.iret (v := (f_X4_go u (u.2.2.1 + (f_X4_immediateB u))).1) hx hb hr (fun t ht hW => ⟨⟨(f_X4_go u (u.2.2.1 + (f_X4_immediateB u))).1, (f_X4_go u (u.2.2.1 + (f_X4_immediateB u))).2, rfl, ⟨(congrArg Prod.fst hF).symm, (congrArg Prod.snd hF).symm⟩, by rw [ht]; exact hP, va_K.moved hW.alike hK, hD⟩, hS.F ht⟩) hS.2.2 dX4_branch_135
            · refine lv_iload_n hx hb dX4_branch_80 rfl (lv_at hl 2 rfl) ?_
              refine lv_iconst (v := (4 : Int32)) hx hb dX4_branch_81 (by decide) ?_
              refine lv_icmp_eq (tgt := 91) hx hb dX4_branch_82 (by decide) (fun c15 => ?_) (fun c15 => ?_)
              · refine lv_iconst (v := (1 : Int32)) hx hb dX4_branch_91 (by decide) ?_
                refine lv_goto (tgt := 96) hx hb dX4_branch_92 (by decide) ?_
                refine lv_icmp_ne (tgt := 103) hx hb dX4_branch_96 (by decide) (fun c16 => ?_) (fun c16 => ?_)
                · refine lv_iconst (v := (0 : Int32)) hx hb dX4_branch_103 (by decide) ?_
                  refine lv_istore_n (lv' := [(3, .int (0 : Int32)), (2, .int (0 : Int32)), (0, .ref g0), (1, .int p0)]) hx hb dX4_branch_104 rfl hl (by decide) rfl (fun ls hl => ?_)
                  refine lv_aload_n hx hb dX4_branch_105 rfl (lv_at hl 2 rfl) ?_
                  refine lv_iload_n hx hb dX4_branch_106 rfl (lv_at hl 0 rfl) ?_
                  refine lv_if_eq (tgt := 122) hx hb dX4_branch_107 (by decide) (fun _ => ?_) (fun c_ => absurd c_ (by decide))
                  refine lv_aload_n hx hb dX4_branch_122 rfl (lv_at hl 2 rfl) ?_
                  refine va_get (D := (dC, dI)) (ci := 1) (v := .long u.2.2.1) (C := RX4) (T := TX4) (N := 13) hx hb hts inX4 hown hK hP 0 rfl rfl 2 (by decide) (hts _ qw_281) (fun _ h9 => h9) rfl dX4_branch_123 ?_
                  refine lv_aload_n hx hb dX4_branch_126 rfl (lv_at hl 2 rfl) ?_
                  refine va_get (D := (dC, dI)) (ci := 1) (v := .int u.2.2.2.2.2.1) (C := RX4) (T := TX4) (N := 13) hx hb hts inX4 hown hK hP 0 rfl rfl 5 (by decide) (hts _ qw_284) (fun _ h9 => h9) rfl dX4_branch_127 ?_
                  refine lv_i2l (v := u.2.2.2.2.2.1.toInt64) hx hb dX4_branch_130 rfl ?_
                  refine lv_ladd hx hb dX4_branch_131 ?_
                  refine wr_calli (wr := []) (va_runV (As := [.long (u.2.2.1 + u.2.2.2.2.2.1.toInt64)]) (rest := []) ⟨hx, hb, hml, hown, hts⟩ (mt_X4_go l dC dI g0 g1 g2 cB cC s.heap.size u (u.2.2.1 + u.2.2.2.2.2.1.toInt64)) (cwV 1 hts gX4_91_X4_go rfl rfl rfl (by decide +kernel) ⟨Nat.le_of_ble_eq_true rfl, Nat.le_of_ble_eq_true rfl⟩) (wr_V hK hP hD (ci := 1) (q0 := 0) rfl rfl rfl) rfl rfl hl.1 rfl (lv_room (Nat.le_of_ble_eq_true rfl)) dX4_branch_132 ⟨Nat.le_of_ble_eq_true rfl, Nat.le_of_ble_eq_true rfl⟩) hS hP hD hA [0, 1, 2] [] rfl rfl (by decide) (by decide) (fun r_ v_ H locs hw hP hD hS => ?_)
                  obtain ⟨rfl, rfl⟩ := hw
                  refine W.eq (g2 := F0 m 135 ls [.int (f_X4_go u (u.2.2.1 + u.2.2.2.2.2.1.toInt64)).1]) rfl ?_
                  have hP : va_P (dC, dI) vwCl (Wm g0 g1 g2 cB cC (f_X4_go u (u.2.2.1 + u.2.2.2.2.2.1.toInt64)).2) H := hP
                  have hD : va_D A (Wm g0 g1 g2 cB cC (f_X4_go u (u.2.2.1 + u.2.2.2.2.2.1.toInt64)).2) := hD
                  have hF : f_X4_branch u p0 = ((f_X4_go u (u.2.2.1 + u.2.2.2.2.2.1.toInt64)).1, (f_X4_go u (u.2.2.1 + u.2.2.2.2.2.1.toInt64)).2) := by unfold f_X4_branch; rw [if_neg c1, if_neg c2, if_pos c3, if_neg c4, if_pos c12, if_neg c13, if_pos c15, if_neg c16]
                  exact W.iret (v := (f_X4_go u (u.2.2.1 + u.2.2.2.2.2.1.toInt64)).1) hx hb hr (fun t ht hW => ⟨⟨(f_X4_go u (u.2.2.1 + u.2.2.2.2.2.1.toInt64)).1, (f_X4_go u (u.2.2.1 + u.2.2.2.2.2.1.toInt64)).2, rfl, ⟨(congrArg Prod.fst hF).symm, (congrArg Prod.snd hF).symm⟩, by rw [ht]; exact hP, va_K.moved hW.alike hK, hD⟩, hS.F ht⟩) hS.2.2 dX4_branch_135
                · refine lv_iconst (v := (1 : Int32)) hx hb dX4_branch_99 (by decide) ?_
                  refine lv_goto (tgt := 104) hx hb dX4_branch_100 (by decide) ?_
                  refine lv_istore_n (lv' := [(3, .int (1 : Int32)), (2, .int (0 : Int32)), (0, .ref g0), (1, .int p0)]) hx hb dX4_branch_104 rfl hl (by decide) rfl (fun ls hl => ?_)
                  refine lv_aload_n hx hb dX4_branch_105 rfl (lv_at hl 2 rfl) ?_
                  refine lv_iload_n hx hb dX4_branch_106 rfl (lv_at hl 0 rfl) ?_
                  refine lv_if_eq (tgt := 122) hx hb dX4_branch_107 (by decide) (fun c_ => absurd c_ (by decide)) (fun _ => ?_)
                  refine lv_aload_n hx hb dX4_branch_110 rfl (lv_at hl 2 rfl) ?_
                  refine va_get (D := (dC, dI)) (ci := 1) (v := .long u.2.2.1) (C := RX4) (T := TX4) (N := 13) hx hb hts inX4 hown hK hP 0 rfl rfl 2 (by decide) (hts _ qw_281) (fun _ h9 => h9) rfl dX4_branch_111 ?_
                  refine lv_aload_n hx hb dX4_branch_114 rfl (lv_at hl 2 rfl) ?_
                  refine W.callV (W.runV (As := []) (rest := [.long u.2.2.1, .ref g0]) ⟨hx, hb, hml, hown, hts⟩ (mt_X4_immediateB l dC dI g0 g1 g2 cB cC u ) (cwV 0 hts gX4_87_X4_immediateB rfl rfl rfl (by decide +kernel) ⟨Nat.le_of_ble_eq_true rfl, Nat.le_of_ble_eq_true rfl⟩) (rd_V hK hP (ci := 1) (q0 := 0) rfl rfl rfl) rfl rfl hl.1 rfl (lv_room (Nat.le_of_ble_eq_true rfl)) dX4_branch_115 ⟨Nat.le_of_ble_eq_true rfl, Nat.le_of_ble_eq_true rfl⟩) ?_
                  refine W.eq (g2 := F0 m 118 ls [.long (f_X4_immediateB u), .long u.2.2.1, .ref g0]) rfl ?_
                  refine lv_ladd hx hb dX4_branch_118 ?_
                  refine lv_goto (tgt := 132) hx hb dX4_branch_119 (by decide) ?_
                  refine wr_calli (wr := []) (va_runV (As := [.long (u.2.2.1 + (f_X4_immediateB u))]) (rest := []) ⟨hx, hb, hml, hown, hts⟩ (mt_X4_go l dC dI g0 g1 g2 cB cC s.heap.size u (u.2.2.1 + (f_X4_immediateB u))) (cwV 1 hts gX4_91_X4_go rfl rfl rfl (by decide +kernel) ⟨Nat.le_of_ble_eq_true rfl, Nat.le_of_ble_eq_true rfl⟩) (wr_V hK hP hD (ci := 1) (q0 := 0) rfl rfl rfl) rfl rfl hl.1 rfl (lv_room (Nat.le_of_ble_eq_true rfl)) dX4_branch_132 ⟨Nat.le_of_ble_eq_true rfl, Nat.le_of_ble_eq_true rfl⟩) hS hP hD hA [0, 1, 2] [] rfl rfl (by decide) (by decide) (fun r_ v_ H locs hw hP hD hS => ?_)
                  obtain ⟨rfl, rfl⟩ := hw
                  refine W.eq (g2 := F0 m 135 ls [.int (f_X4_go u (u.2.2.1 + (f_X4_immediateB u))).1]) rfl ?_
                  have hP : va_P (dC, dI) vwCl (Wm g0 g1 g2 cB cC (f_X4_go u (u.2.2.1 + (f_X4_immediateB u))).2) H := hP
                  have hD : va_D A (Wm g0 g1 g2 cB cC (f_X4_go u (u.2.2.1 + (f_X4_immediateB u))).2) := hD
                  have hF : f_X4_branch u p0 = ((f_X4_go u (u.2.2.1 + (f_X4_immediateB u))).1, (f_X4_go u (u.2.2.1 + (f_X4_immediateB u))).2) := by unfold f_X4_branch; rw [if_neg c1, if_neg c2, if_pos c3, if_neg c4, if_pos c12, if_neg c13, if_pos c15, if_pos c16]
                  exact W.iret (v := (f_X4_go u (u.2.2.1 + (f_X4_immediateB u))).1) hx hb hr (fun t ht hW => ⟨⟨(f_X4_go u (u.2.2.1 + (f_X4_immediateB u))).1, (f_X4_go u (u.2.2.1 + (f_X4_immediateB u))).2, rfl, ⟨(congrArg Prod.fst hF).symm, (congrArg Prod.snd hF).symm⟩, by rw [ht]; exact hP, va_K.moved hW.alike hK, hD⟩, hS.F ht⟩) hS.2.2 dX4_branch_135
              · refine lv_iload_n hx hb dX4_branch_85 rfl (lv_at hl 2 rfl) ?_
                refine lv_bipush (v := (6 : Int32)) hx hb dX4_branch_86 (by decide) ?_
                refine lv_icmp_ne (tgt := 95) hx hb dX4_branch_88 (by decide) (fun c17 => ?_) (fun c17 => ?_)
                · refine lv_iconst (v := (0 : Int32)) hx hb dX4_branch_95 (by decide) ?_
                  refine lv_icmp_ne (tgt := 103) hx hb dX4_branch_96 (by decide) (fun c18 => ?_) (fun c18 => ?_)
                  · refine lv_iconst (v := (0 : Int32)) hx hb dX4_branch_103 (by decide) ?_
                    refine lv_istore_n (lv' := [(3, .int (0 : Int32)), (2, .int (0 : Int32)), (0, .ref g0), (1, .int p0)]) hx hb dX4_branch_104 rfl hl (by decide) rfl (fun ls hl => ?_)
                    refine lv_aload_n hx hb dX4_branch_105 rfl (lv_at hl 2 rfl) ?_
                    refine lv_iload_n hx hb dX4_branch_106 rfl (lv_at hl 0 rfl) ?_
                    refine lv_if_eq (tgt := 122) hx hb dX4_branch_107 (by decide) (fun _ => ?_) (fun c_ => absurd c_ (by decide))
                    refine lv_aload_n hx hb dX4_branch_122 rfl (lv_at hl 2 rfl) ?_
                    refine va_get (D := (dC, dI)) (ci := 1) (v := .long u.2.2.1) (C := RX4) (T := TX4) (N := 13) hx hb hts inX4 hown hK hP 0 rfl rfl 2 (by decide) (hts _ qw_281) (fun _ h9 => h9) rfl dX4_branch_123 ?_
                    refine lv_aload_n hx hb dX4_branch_126 rfl (lv_at hl 2 rfl) ?_
                    refine va_get (D := (dC, dI)) (ci := 1) (v := .int u.2.2.2.2.2.1) (C := RX4) (T := TX4) (N := 13) hx hb hts inX4 hown hK hP 0 rfl rfl 5 (by decide) (hts _ qw_284) (fun _ h9 => h9) rfl dX4_branch_127 ?_
                    refine lv_i2l (v := u.2.2.2.2.2.1.toInt64) hx hb dX4_branch_130 rfl ?_
                    refine lv_ladd hx hb dX4_branch_131 ?_
                    refine wr_calli (wr := []) (va_runV (As := [.long (u.2.2.1 + u.2.2.2.2.2.1.toInt64)]) (rest := []) ⟨hx, hb, hml, hown, hts⟩ (mt_X4_go l dC dI g0 g1 g2 cB cC s.heap.size u (u.2.2.1 + u.2.2.2.2.2.1.toInt64)) (cwV 1 hts gX4_91_X4_go rfl rfl rfl (by decide +kernel) ⟨Nat.le_of_ble_eq_true rfl, Nat.le_of_ble_eq_true rfl⟩) (wr_V hK hP hD (ci := 1) (q0 := 0) rfl rfl rfl) rfl rfl hl.1 rfl (lv_room (Nat.le_of_ble_eq_true rfl)) dX4_branch_132 ⟨Nat.le_of_ble_eq_true rfl, Nat.le_of_ble_eq_true rfl⟩) hS hP hD hA [0, 1, 2] [] rfl rfl (by decide) (by decide) (fun r_ v_ H locs hw hP hD hS => ?_)
                    obtain ⟨rfl, rfl⟩ := hw
                    refine W.eq (g2 := F0 m 135 ls [.int (f_X4_go u (u.2.2.1 + u.2.2.2.2.2.1.toInt64)).1]) rfl ?_
                    have hP : va_P (dC, dI) vwCl (Wm g0 g1 g2 cB cC (f_X4_go u (u.2.2.1 + u.2.2.2.2.2.1.toInt64)).2) H := hP
                    have hD : va_D A (Wm g0 g1 g2 cB cC (f_X4_go u (u.2.2.1 + u.2.2.2.2.2.1.toInt64)).2) := hD
                    have hF : f_X4_branch u p0 = ((f_X4_go u (u.2.2.1 + u.2.2.2.2.2.1.toInt64)).1, (f_X4_go u (u.2.2.1 + u.2.2.2.2.2.1.toInt64)).2) := by unfold f_X4_branch; rw [if_neg c1, if_neg c2, if_pos c3, if_neg c4, if_pos c12, if_neg c13, if_neg c15, if_neg c17, if_neg c18]
                    exact W.iret (v := (f_X4_go u (u.2.2.1 + u.2.2.2.2.2.1.toInt64)).1) hx hb hr (fun t ht hW => ⟨⟨(f_X4_go u (u.2.2.1 + u.2.2.2.2.2.1.toInt64)).1, (f_X4_go u (u.2.2.1 + u.2.2.2.2.2.1.toInt64)).2, rfl, ⟨(congrArg Prod.fst hF).symm, (congrArg Prod.snd hF).symm⟩, by rw [ht]; exact hP, va_K.moved hW.alike hK, hD⟩, hS.F ht⟩) hS.2.2 dX4_branch_135
                  · refine lv_iconst (v := (1 : Int32)) hx hb dX4_branch_99 (by decide) ?_
                    refine lv_goto (tgt := 104) hx hb dX4_branch_100 (by decide) ?_
                    refine lv_istore_n (lv' := [(3, .int (1 : Int32)), (2, .int (0 : Int32)), (0, .ref g0), (1, .int p0)]) hx hb dX4_branch_104 rfl hl (by decide) rfl (fun ls hl => ?_)
                    refine lv_aload_n hx hb dX4_branch_105 rfl (lv_at hl 2 rfl) ?_
                    refine lv_iload_n hx hb dX4_branch_106 rfl (lv_at hl 0 rfl) ?_
                    refine lv_if_eq (tgt := 122) hx hb dX4_branch_107 (by decide) (fun c_ => absurd c_ (by decide)) (fun _ => ?_)
                    refine lv_aload_n hx hb dX4_branch_110 rfl (lv_at hl 2 rfl) ?_
                    refine va_get (D := (dC, dI)) (ci := 1) (v := .long u.2.2.1) (C := RX4) (T := TX4) (N := 13) hx hb hts inX4 hown hK hP 0 rfl rfl 2 (by decide) (hts _ qw_281) (fun _ h9 => h9) rfl dX4_branch_111 ?_
                    refine lv_aload_n hx hb dX4_branch_114 rfl (lv_at hl 2 rfl) ?_
                    refine W.callV (W.runV (As := []) (rest := [.long u.2.2.1, .ref g0]) ⟨hx, hb, hml, hown, hts⟩ (mt_X4_immediateB l dC dI g0 g1 g2 cB cC u ) (cwV 0 hts gX4_87_X4_immediateB rfl rfl rfl (by decide +kernel) ⟨Nat.le_of_ble_eq_true rfl, Nat.le_of_ble_eq_true rfl⟩) (rd_V hK hP (ci := 1) (q0 := 0) rfl rfl rfl) rfl rfl hl.1 rfl (lv_room (Nat.le_of_ble_eq_true rfl)) dX4_branch_115 ⟨Nat.le_of_ble_eq_true rfl, Nat.le_of_ble_eq_true rfl⟩) ?_
                    refine W.eq (g2 := F0 m 118 ls [.long (f_X4_immediateB u), .long u.2.2.1, .ref g0]) rfl ?_
                    refine lv_ladd hx hb dX4_branch_118 ?_
                    refine lv_goto (tgt := 132) hx hb dX4_branch_119 (by decide) ?_
                    refine wr_calli (wr := []) (va_runV (As := [.long (u.2.2.1 + (f_X4_immediateB u))]) (rest := []) ⟨hx, hb, hml, hown, hts⟩ (mt_X4_go l dC dI g0 g1 g2 cB cC s.heap.size u (u.2.2.1 + (f_X4_immediateB u))) (cwV 1 hts gX4_91_X4_go rfl rfl rfl (by decide +kernel) ⟨Nat.le_of_ble_eq_true rfl, Nat.le_of_ble_eq_true rfl⟩) (wr_V hK hP hD (ci := 1) (q0 := 0) rfl rfl rfl) rfl rfl hl.1 rfl (lv_room (Nat.le_of_ble_eq_true rfl)) dX4_branch_132 ⟨Nat.le_of_ble_eq_true rfl, Nat.le_of_ble_eq_true rfl⟩) hS hP hD hA [0, 1, 2] [] rfl rfl (by decide) (by decide) (fun r_ v_ H locs hw hP hD hS => ?_)
                    obtain ⟨rfl, rfl⟩ := hw
                    refine W.eq (g2 := F0 m 135 ls [.int (f_X4_go u (u.2.2.1 + (f_X4_immediateB u))).1]) rfl ?_
                    have hP : va_P (dC, dI) vwCl (Wm g0 g1 g2 cB cC (f_X4_go u (u.2.2.1 + (f_X4_immediateB u))).2) H := hP
                    have hD : va_D A (Wm g0 g1 g2 cB cC (f_X4_go u (u.2.2.1 + (f_X4_immediateB u))).2) := hD
                    have hF : f_X4_branch u p0 = ((f_X4_go u (u.2.2.1 + (f_X4_immediateB u))).1, (f_X4_go u (u.2.2.1 + (f_X4_immediateB u))).2) := by unfold f_X4_branch; rw [if_neg c1, if_neg c2, if_pos c3, if_neg c4, if_pos c12, if_neg c13, if_neg c15, if_neg c17, if_pos c18]
                    exact W.iret (v := (f_X4_go u (u.2.2.1 + (f_X4_immediateB u))).1) hx hb hr (fun t ht hW => ⟨⟨(f_X4_go u (u.2.2.1 + (f_X4_immediateB u))).1, (f_X4_go u (u.2.2.1 + (f_X4_immediateB u))).2, rfl, ⟨(congrArg Prod.fst hF).symm, (congrArg Prod.snd hF).symm⟩, by rw [ht]; exact hP, va_K.moved hW.alike hK, hD⟩, hS.F ht⟩) hS.2.2 dX4_branch_135
                · refine lv_iconst (v := (1 : Int32)) hx hb dX4_branch_91 (by decide) ?_
                  refine lv_goto (tgt := 96) hx hb dX4_branch_92 (by decide) ?_
                  refine lv_icmp_ne (tgt := 103) hx hb dX4_branch_96 (by decide) (fun c19 => ?_) (fun c19 => ?_)
                  · refine lv_iconst (v := (0 : Int32)) hx hb dX4_branch_103 (by decide) ?_
                    refine lv_istore_n (lv' := [(3, .int (0 : Int32)), (2, .int (0 : Int32)), (0, .ref g0), (1, .int p0)]) hx hb dX4_branch_104 rfl hl (by decide) rfl (fun ls hl => ?_)
                    refine lv_aload_n hx hb dX4_branch_105 rfl (lv_at hl 2 rfl) ?_
                    refine lv_iload_n hx hb dX4_branch_106 rfl (lv_at hl 0 rfl) ?_
                    refine lv_if_eq (tgt := 122) hx hb dX4_branch_107 (by decide) (fun _ => ?_) (fun c_ => absurd c_ (by decide))
                    refine lv_aload_n hx hb dX4_branch_122 rfl (lv_at hl 2 rfl) ?_
                    refine va_get (D := (dC, dI)) (ci := 1) (v := .long u.2.2.1) (C := RX4) (T := TX4) (N := 13) hx hb hts inX4 hown hK hP 0 rfl rfl 2 (by decide) (hts _ qw_281) (fun _ h9 => h9) rfl dX4_branch_123 ?_
                    refine lv_aload_n hx hb dX4_branch_126 rfl (lv_at hl 2 rfl) ?_
                    refine va_get (D := (dC, dI)) (ci := 1) (v := .int u.2.2.2.2.2.1) (C := RX4) (T := TX4) (N := 13) hx hb hts inX4 hown hK hP 0 rfl rfl 5 (by decide) (hts _ qw_284) (fun _ h9 => h9) rfl dX4_branch_127 ?_
                    refine lv_i2l (v := u.2.2.2.2.2.1.toInt64) hx hb dX4_branch_130 rfl ?_
                    refine lv_ladd hx hb dX4_branch_131 ?_
                    refine wr_calli (wr := []) (va_runV (As := [.long (u.2.2.1 + u.2.2.2.2.2.1.toInt64)]) (rest := []) ⟨hx, hb, hml, hown, hts⟩ (mt_X4_go l dC dI g0 g1 g2 cB cC s.heap.size u (u.2.2.1 + u.2.2.2.2.2.1.toInt64)) (cwV 1 hts gX4_91_X4_go rfl rfl rfl (by decide +kernel) ⟨Nat.le_of_ble_eq_true rfl, Nat.le_of_ble_eq_true rfl⟩) (wr_V hK hP hD (ci := 1) (q0 := 0) rfl rfl rfl) rfl rfl hl.1 rfl (lv_room (Nat.le_of_ble_eq_true rfl)) dX4_branch_132 ⟨Nat.le_of_ble_eq_true rfl, Nat.le_of_ble_eq_true rfl⟩) hS hP hD hA [0, 1, 2] [] rfl rfl (by decide) (by decide) (fun r_ v_ H locs hw hP hD hS => ?_)
                    obtain ⟨rfl, rfl⟩ := hw
                    refine W.eq (g2 := F0 m 135 ls [.int (f_X4_go u (u.2.2.1 + u.2.2.2.2.2.1.toInt64)).1]) rfl ?_
                    have hP : va_P (dC, dI) vwCl (Wm g0 g1 g2 cB cC (f_X4_go u (u.2.2.1 + u.2.2.2.2.2.1.toInt64)).2) H := hP
                    have hD : va_D A (Wm g0 g1 g2 cB cC (f_X4_go u (u.2.2.1 + u.2.2.2.2.2.1.toInt64)).2) := hD
                    have hF : f_X4_branch u p0 = ((f_X4_go u (u.2.2.1 + u.2.2.2.2.2.1.toInt64)).1, (f_X4_go u (u.2.2.1 + u.2.2.2.2.2.1.toInt64)).2) := by unfold f_X4_branch; rw [if_neg c1, if_neg c2, if_pos c3, if_neg c4, if_pos c12, if_neg c13, if_neg c15, if_pos c17, if_neg c19]
                    exact W.iret (v := (f_X4_go u (u.2.2.1 + u.2.2.2.2.2.1.toInt64)).1) hx hb hr (fun t ht hW => ⟨⟨(f_X4_go u (u.2.2.1 + u.2.2.2.2.2.1.toInt64)).1, (f_X4_go u (u.2.2.1 + u.2.2.2.2.2.1.toInt64)).2, rfl, ⟨(congrArg Prod.fst hF).symm, (congrArg Prod.snd hF).symm⟩, by rw [ht]; exact hP, va_K.moved hW.alike hK, hD⟩, hS.F ht⟩) hS.2.2 dX4_branch_135
                  · refine lv_iconst (v := (1 : Int32)) hx hb dX4_branch_99 (by decide) ?_
                    refine lv_goto (tgt := 104) hx hb dX4_branch_100 (by decide) ?_
                    refine lv_istore_n (lv' := [(3, .int (1 : Int32)), (2, .int (0 : Int32)), (0, .ref g0), (1, .int p0)]) hx hb dX4_branch_104 rfl hl (by decide) rfl (fun ls hl => ?_)
                    refine lv_aload_n hx hb dX4_branch_105 rfl (lv_at hl 2 rfl) ?_
                    refine lv_iload_n hx hb dX4_branch_106 rfl (lv_at hl 0 rfl) ?_
                    refine lv_if_eq (tgt := 122) hx hb dX4_branch_107 (by decide) (fun c_ => absurd c_ (by decide)) (fun _ => ?_)
                    refine lv_aload_n hx hb dX4_branch_110 rfl (lv_at hl 2 rfl) ?_
                    refine va_get (D := (dC, dI)) (ci := 1) (v := .long u.2.2.1) (C := RX4) (T := TX4) (N := 13) hx hb hts inX4 hown hK hP 0 rfl rfl 2 (by decide) (hts _ qw_281) (fun _ h9 => h9) rfl dX4_branch_111 ?_
                    refine lv_aload_n hx hb dX4_branch_114 rfl (lv_at hl 2 rfl) ?_
                    refine W.callV (W.runV (As := []) (rest := [.long u.2.2.1, .ref g0]) ⟨hx, hb, hml, hown, hts⟩ (mt_X4_immediateB l dC dI g0 g1 g2 cB cC u ) (cwV 0 hts gX4_87_X4_immediateB rfl rfl rfl (by decide +kernel) ⟨Nat.le_of_ble_eq_true rfl, Nat.le_of_ble_eq_true rfl⟩) (rd_V hK hP (ci := 1) (q0 := 0) rfl rfl rfl) rfl rfl hl.1 rfl (lv_room (Nat.le_of_ble_eq_true rfl)) dX4_branch_115 ⟨Nat.le_of_ble_eq_true rfl, Nat.le_of_ble_eq_true rfl⟩) ?_
                    refine W.eq (g2 := F0 m 118 ls [.long (f_X4_immediateB u), .long u.2.2.1, .ref g0]) rfl ?_
                    refine lv_ladd hx hb dX4_branch_118 ?_
                    refine lv_goto (tgt := 132) hx hb dX4_branch_119 (by decide) ?_
                    refine wr_calli (wr := []) (va_runV (As := [.long (u.2.2.1 + (f_X4_immediateB u))]) (rest := []) ⟨hx, hb, hml, hown, hts⟩ (mt_X4_go l dC dI g0 g1 g2 cB cC s.heap.size u (u.2.2.1 + (f_X4_immediateB u))) (cwV 1 hts gX4_91_X4_go rfl rfl rfl (by decide +kernel) ⟨Nat.le_of_ble_eq_true rfl, Nat.le_of_ble_eq_true rfl⟩) (wr_V hK hP hD (ci := 1) (q0 := 0) rfl rfl rfl) rfl rfl hl.1 rfl (lv_room (Nat.le_of_ble_eq_true rfl)) dX4_branch_132 ⟨Nat.le_of_ble_eq_true rfl, Nat.le_of_ble_eq_true rfl⟩) hS hP hD hA [0, 1, 2] [] rfl rfl (by decide) (by decide) (fun r_ v_ H locs hw hP hD hS => ?_)
                    obtain ⟨rfl, rfl⟩ := hw
                    refine W.eq (g2 := F0 m 135 ls [.int (f_X4_go u (u.2.2.1 + (f_X4_immediateB u))).1]) rfl ?_
                    have hP : va_P (dC, dI) vwCl (Wm g0 g1 g2 cB cC (f_X4_go u (u.2.2.1 + (f_X4_immediateB u))).2) H := hP
                    have hD : va_D A (Wm g0 g1 g2 cB cC (f_X4_go u (u.2.2.1 + (f_X4_immediateB u))).2) := hD
                    have hF : f_X4_branch u p0 = ((f_X4_go u (u.2.2.1 + (f_X4_immediateB u))).1, (f_X4_go u (u.2.2.1 + (f_X4_immediateB u))).2) := by unfold f_X4_branch; rw [if_neg c1, if_neg c2, if_pos c3, if_neg c4, if_pos c12, if_neg c13, if_neg c15, if_pos c17, if_pos c19]
                    exact W.iret (v := (f_X4_go u (u.2.2.1 + (f_X4_immediateB u))).1) hx hb hr (fun t ht hW => ⟨⟨(f_X4_go u (u.2.2.1 + (f_X4_immediateB u))).1, (f_X4_go u (u.2.2.1 + (f_X4_immediateB u))).2, rfl, ⟨(congrArg Prod.fst hF).symm, (congrArg Prod.snd hF).symm⟩, by rw [ht]; exact hP, va_K.moved hW.alike hK, hD⟩, hS.F ht⟩) hS.2.2 dX4_branch_135
          · have c12 := mt (lg_cmp_ge u.2.2.2.2.2.2.1 u.2.2.2.2.2.2.2.1).mpr c12
            refine lv_iconst (v := (1 : Int32)) hx hb dX4_branch_55 (by decide) ?_
            refine lv_goto (tgt := 74) hx hb dX4_branch_56 (by decide) ?_
            refine lv_istore_n (lv' := [(2, .int (1 : Int32)), (0, .ref g0), (1, .int p0)]) hx hb dX4_branch_74 rfl hl (by decide) rfl (fun ls hl => ?_)
            refine lv_iload_n hx hb dX4_branch_75 rfl (lv_at hl 0 rfl) ?_
            refine lv_iload_n hx hb dX4_branch_76 rfl (lv_at hl 2 rfl) ?_
            refine lv_if_eq (tgt := 91) hx hb dX4_branch_77 (by decide) (fun c20 => ?_) (fun c20 => ?_)
            · refine lv_iconst (v := (1 : Int32)) hx hb dX4_branch_91 (by decide) ?_
              refine lv_goto (tgt := 96) hx hb dX4_branch_92 (by decide) ?_
              refine lv_icmp_ne (tgt := 103) hx hb dX4_branch_96 (by decide) (fun c21 => ?_) (fun c21 => ?_)
              · refine lv_iconst (v := (0 : Int32)) hx hb dX4_branch_103 (by decide) ?_
                refine lv_istore_n (lv' := [(3, .int (0 : Int32)), (2, .int (1 : Int32)), (0, .ref g0), (1, .int p0)]) hx hb dX4_branch_104 rfl hl (by decide) rfl (fun ls hl => ?_)
                refine lv_aload_n hx hb dX4_branch_105 rfl (lv_at hl 2 rfl) ?_
                refine lv_iload_n hx hb dX4_branch_106 rfl (lv_at hl 0 rfl) ?_
                refine lv_if_eq (tgt := 122) hx hb dX4_branch_107 (by decide) (fun _ => ?_) (fun c_ => absurd c_ (by decide))
                refine lv_aload_n hx hb dX4_branch_122 rfl (lv_at hl 2 rfl) ?_
                refine va_get (D := (dC, dI)) (ci := 1) (v := .long u.2.2.1) (C := RX4) (T := TX4) (N := 13) hx hb hts inX4 hown hK hP 0 rfl rfl 2 (by decide) (hts _ qw_281) (fun _ h9 => h9) rfl dX4_branch_123 ?_
                refine lv_aload_n hx hb dX4_branch_126 rfl (lv_at hl 2 rfl) ?_
                refine va_get (D := (dC, dI)) (ci := 1) (v := .int u.2.2.2.2.2.1) (C := RX4) (T := TX4) (N := 13) hx hb hts inX4 hown hK hP 0 rfl rfl 5 (by decide) (hts _ qw_284) (fun _ h9 => h9) rfl dX4_branch_127 ?_
                refine lv_i2l (v := u.2.2.2.2.2.1.toInt64) hx hb dX4_branch_130 rfl ?_
                refine lv_ladd hx hb dX4_branch_131 ?_
                refine wr_calli (wr := []) (va_runV (As := [.long (u.2.2.1 + u.2.2.2.2.2.1.toInt64)]) (rest := []) ⟨hx, hb, hml, hown, hts⟩ (mt_X4_go l dC dI g0 g1 g2 cB cC s.heap.size u (u.2.2.1 + u.2.2.2.2.2.1.toInt64)) (cwV 1 hts gX4_91_X4_go rfl rfl rfl (by decide +kernel) ⟨Nat.le_of_ble_eq_true rfl, Nat.le_of_ble_eq_true rfl⟩) (wr_V hK hP hD (ci := 1) (q0 := 0) rfl rfl rfl) rfl rfl hl.1 rfl (lv_room (Nat.le_of_ble_eq_true rfl)) dX4_branch_132 ⟨Nat.le_of_ble_eq_true rfl, Nat.le_of_ble_eq_true rfl⟩) hS hP hD hA [0, 1, 2] [] rfl rfl (by decide) (by decide) (fun r_ v_ H locs hw hP hD hS => ?_)
                obtain ⟨rfl, rfl⟩ := hw
                refine W.eq (g2 := F0 m 135 ls [.int (f_X4_go u (u.2.2.1 + u.2.2.2.2.2.1.toInt64)).1]) rfl ?_
                have hP : va_P (dC, dI) vwCl (Wm g0 g1 g2 cB cC (f_X4_go u (u.2.2.1 + u.2.2.2.2.2.1.toInt64)).2) H := hP
                have hD : va_D A (Wm g0 g1 g2 cB cC (f_X4_go u (u.2.2.1 + u.2.2.2.2.2.1.toInt64)).2) := hD
                have hF : f_X4_branch u p0 = ((f_X4_go u (u.2.2.1 + u.2.2.2.2.2.1.toInt64)).1, (f_X4_go u (u.2.2.1 + u.2.2.2.2.2.1.toInt64)).2) := by unfold f_X4_branch; rw [if_neg c1, if_neg c2, if_pos c3, if_neg c4, if_neg c12, if_pos c20, if_neg c21]
                exact W.iret (v := (f_X4_go u (u.2.2.1 + u.2.2.2.2.2.1.toInt64)).1) hx hb hr (fun t ht hW => ⟨⟨(f_X4_go u (u.2.2.1 + u.2.2.2.2.2.1.toInt64)).1, (f_X4_go u (u.2.2.1 + u.2.2.2.2.2.1.toInt64)).2, rfl, ⟨(congrArg Prod.fst hF).symm, (congrArg Prod.snd hF).symm⟩, by rw [ht]; exact hP, va_K.moved hW.alike hK, hD⟩, hS.F ht⟩) hS.2.2 dX4_branch_135
              · refine lv_iconst (v := (1 : Int32)) hx hb dX4_branch_99 (by decide) ?_
                refine lv_goto (tgt := 104) hx hb dX4_branch_100 (by decide) ?_
                refine lv_istore_n (lv' := [(3, .int (1 : Int32)), (2, .int (1 : Int32)), (0, .ref g0), (1, .int p0)]) hx hb dX4_branch_104 rfl hl (by decide) rfl (fun ls hl => ?_)
                refine lv_aload_n hx hb dX4_branch_105 rfl (lv_at hl 2 rfl) ?_
                refine lv_iload_n hx hb dX4_branch_106 rfl (lv_at hl 0 rfl) ?_
                refine lv_if_eq (tgt := 122) hx hb dX4_branch_107 (by decide) (fun c_ => absurd c_ (by decide)) (fun _ => ?_)
                refine lv_aload_n hx hb dX4_branch_110 rfl (lv_at hl 2 rfl) ?_
                refine va_get (D := (dC, dI)) (ci := 1) (v := .long u.2.2.1) (C := RX4) (T := TX4) (N := 13) hx hb hts inX4 hown hK hP 0 rfl rfl 2 (by decide) (hts _ qw_281) (fun _ h9 => h9) rfl dX4_branch_111 ?_
                refine lv_aload_n hx hb dX4_branch_114 rfl (lv_at hl 2 rfl) ?_
                refine W.callV (W.runV (As := []) (rest := [.long u.2.2.1, .ref g0]) ⟨hx, hb, hml, hown, hts⟩ (mt_X4_immediateB l dC dI g0 g1 g2 cB cC u ) (cwV 0 hts gX4_87_X4_immediateB rfl rfl rfl (by decide +kernel) ⟨Nat.le_of_ble_eq_true rfl, Nat.le_of_ble_eq_true rfl⟩) (rd_V hK hP (ci := 1) (q0 := 0) rfl rfl rfl) rfl rfl hl.1 rfl (lv_room (Nat.le_of_ble_eq_true rfl)) dX4_branch_115 ⟨Nat.le_of_ble_eq_true rfl, Nat.le_of_ble_eq_true rfl⟩) ?_
                refine W.eq (g2 := F0 m 118 ls [.long (f_X4_immediateB u), .long u.2.2.1, .ref g0]) rfl ?_
                refine lv_ladd hx hb dX4_branch_118 ?_
                refine lv_goto (tgt := 132) hx hb dX4_branch_119 (by decide) ?_
                refine wr_calli (wr := []) (va_runV (As := [.long (u.2.2.1 + (f_X4_immediateB u))]) (rest := []) ⟨hx, hb, hml, hown, hts⟩ (mt_X4_go l dC dI g0 g1 g2 cB cC s.heap.size u (u.2.2.1 + (f_X4_immediateB u))) (cwV 1 hts gX4_91_X4_go rfl rfl rfl (by decide +kernel) ⟨Nat.le_of_ble_eq_true rfl, Nat.le_of_ble_eq_true rfl⟩) (wr_V hK hP hD (ci := 1) (q0 := 0) rfl rfl rfl) rfl rfl hl.1 rfl (lv_room (Nat.le_of_ble_eq_true rfl)) dX4_branch_132 ⟨Nat.le_of_ble_eq_true rfl, Nat.le_of_ble_eq_true rfl⟩) hS hP hD hA [0, 1, 2] [] rfl rfl (by decide) (by decide) (fun r_ v_ H locs hw hP hD hS => ?_)
                obtain ⟨rfl, rfl⟩ := hw
                refine W.eq (g2 := F0 m 135 ls [.int (f_X4_go u (u.2.2.1 + (f_X4_immediateB u))).1]) rfl ?_
                have hP : va_P (dC, dI) vwCl (Wm g0 g1 g2 cB cC (f_X4_go u (u.2.2.1 + (f_X4_immediateB u))).2) H := hP
                have hD : va_D A (Wm g0 g1 g2 cB cC (f_X4_go u (u.2.2.1 + (f_X4_immediateB u))).2) := hD
                have hF : f_X4_branch u p0 = ((f_X4_go u (u.2.2.1 + (f_X4_immediateB u))).1, (f_X4_go u (u.2.2.1 + (f_X4_immediateB u))).2) := by unfold f_X4_branch; rw [if_neg c1, if_neg c2, if_pos c3, if_neg c4, if_neg c12, if_pos c20, if_pos c21]
                exact W.iret (v := (f_X4_go u (u.2.2.1 + (f_X4_immediateB u))).1) hx hb hr (fun t ht hW => ⟨⟨(f_X4_go u (u.2.2.1 + (f_X4_immediateB u))).1, (f_X4_go u (u.2.2.1 + (f_X4_immediateB u))).2, rfl, ⟨(congrArg Prod.fst hF).symm, (congrArg Prod.snd hF).symm⟩, by rw [ht]; exact hP, va_K.moved hW.alike hK, hD⟩, hS.F ht⟩) hS.2.2 dX4_branch_135
            · refine lv_iload_n hx hb dX4_branch_80 rfl (lv_at hl 2 rfl) ?_
              refine lv_iconst (v := (4 : Int32)) hx hb dX4_branch_81 (by decide) ?_
              refine lv_icmp_eq (tgt := 91) hx hb dX4_branch_82 (by decide) (fun c22 => ?_) (fun c22 => ?_)
              · refine lv_iconst (v := (1 : Int32)) hx hb dX4_branch_91 (by decide) ?_
                refine lv_goto (tgt := 96) hx hb dX4_branch_92 (by decide) ?_
                refine lv_icmp_ne (tgt := 103) hx hb dX4_branch_96 (by decide) (fun c23 => ?_) (fun c23 => ?_)
                · refine lv_iconst (v := (0 : Int32)) hx hb dX4_branch_103 (by decide) ?_
                  refine lv_istore_n (lv' := [(3, .int (0 : Int32)), (2, .int (1 : Int32)), (0, .ref g0), (1, .int p0)]) hx hb dX4_branch_104 rfl hl (by decide) rfl (fun ls hl => ?_)
                  refine lv_aload_n hx hb dX4_branch_105 rfl (lv_at hl 2 rfl) ?_
                  refine lv_iload_n hx hb dX4_branch_106 rfl (lv_at hl 0 rfl) ?_
                  refine lv_if_eq (tgt := 122) hx hb dX4_branch_107 (by decide) (fun _ => ?_) (fun c_ => absurd c_ (by decide))
                  refine lv_aload_n hx hb dX4_branch_122 rfl (lv_at hl 2 rfl) ?_
                  refine va_get (D := (dC, dI)) (ci := 1) (v := .long u.2.2.1) (C := RX4) (T := TX4) (N := 13) hx hb hts inX4 hown hK hP 0 rfl rfl 2 (by decide) (hts _ qw_281) (fun _ h9 => h9) rfl dX4_branch_123 ?_
                  refine lv_aload_n hx hb dX4_branch_126 rfl (lv_at hl 2 rfl) ?_
                  refine va_get (D := (dC, dI)) (ci := 1) (v := .int u.2.2.2.2.2.1) (C := RX4) (T := TX4) (N := 13) hx hb hts inX4 hown hK hP 0 rfl rfl 5 (by decide) (hts _ qw_284) (fun _ h9 => h9) rfl dX4_branch_127 ?_
                  refine lv_i2l (v := u.2.2.2.2.2.1.toInt64) hx hb dX4_branch_130 rfl ?_
                  refine lv_ladd hx hb dX4_branch_131 ?_
                  refine wr_calli (wr := []) (va_runV (As := [.long (u.2.2.1 + u.2.2.2.2.2.1.toInt64)]) (rest := []) ⟨hx, hb, hml, hown, hts⟩ (mt_X4_go l dC dI g0 g1 g2 cB cC s.heap.size u (u.2.2.1 + u.2.2.2.2.2.1.toInt64)) (cwV 1 hts gX4_91_X4_go rfl rfl rfl (by decide +kernel) ⟨Nat.le_of_ble_eq_true rfl, Nat.le_of_ble_eq_true rfl⟩) (wr_V hK hP hD (ci := 1) (q0 := 0) rfl rfl rfl) rfl rfl hl.1 rfl (lv_room (Nat.le_of_ble_eq_true rfl)) dX4_branch_132 ⟨Nat.le_of_ble_eq_true rfl, Nat.le_of_ble_eq_true rfl⟩) hS hP hD hA [0, 1, 2] [] rfl rfl (by decide) (by decide) (fun r_ v_ H locs hw hP hD hS => ?_)
                  obtain ⟨rfl, rfl⟩ := hw
                  refine W.eq (g2 := F0 m 135 ls [.int (f_X4_go u (u.2.2.1 + u.2.2.2.2.2.1.toInt64)).1]) rfl ?_
                  have hP : va_P (dC, dI) vwCl (Wm g0 g1 g2 cB cC (f_X4_go u (u.2.2.1 + u.2.2.2.2.2.1.toInt64)).2) H := hP
                  have hD : va_D A (Wm g0 g1 g2 cB cC (f_X4_go u (u.2.2.1 + u.2.2.2.2.2.1.toInt64)).2) := hD
                  have hF : f_X4_branch u p0 = ((f_X4_go u (u.2.2.1 + u.2.2.2.2.2.1.toInt64)).1, (f_X4_go u (u.2.2.1 + u.2.2.2.2.2.1.toInt64)).2) := by unfold f_X4_branch; rw [if_neg c1, if_neg c2, if_pos c3, if_neg c4, if_neg c12, if_neg c20, if_pos c22, if_neg c23]
                  exact W.iret (v := (f_X4_go u (u.2.2.1 + u.2.2.2.2.2.1.toInt64)).1) hx hb hr (fun t ht hW => ⟨⟨(f_X4_go u (u.2.2.1 + u.2.2.2.2.2.1.toInt64)).1, (f_X4_go u (u.2.2.1 + u.2.2.2.2.2.1.toInt64)).2, rfl, ⟨(congrArg Prod.fst hF).symm, (congrArg Prod.snd hF).symm⟩, by rw [ht]; exact hP, va_K.moved hW.alike hK, hD⟩, hS.F ht⟩) hS.2.2 dX4_branch_135
                · refine lv_iconst (v := (1 : Int32)) hx hb dX4_branch_99 (by decide) ?_
                  refine lv_goto (tgt := 104) hx hb dX4_branch_100 (by decide) ?_
                  refine lv_istore_n (lv' := [(3, .int (1 : Int32)), (2, .int (1 : Int32)), (0, .ref g0), (1, .int p0)]) hx hb dX4_branch_104 rfl hl (by decide) rfl (fun ls hl => ?_)
                  refine lv_aload_n hx hb dX4_branch_105 rfl (lv_at hl 2 rfl) ?_
                  refine lv_iload_n hx hb dX4_branch_106 rfl (lv_at hl 0 rfl) ?_
                  refine lv_if_eq (tgt := 122) hx hb dX4_branch_107 (by decide) (fun c_ => absurd c_ (by decide)) (fun _ => ?_)
                  refine lv_aload_n hx hb dX4_branch_110 rfl (lv_at hl 2 rfl) ?_
                  refine va_get (D := (dC, dI)) (ci := 1) (v := .long u.2.2.1) (C := RX4) (T := TX4) (N := 13) hx hb hts inX4 hown hK hP 0 rfl rfl 2 (by decide) (hts _ qw_281) (fun _ h9 => h9) rfl dX4_branch_111 ?_
                  refine lv_aload_n hx hb dX4_branch_114 rfl (lv_at hl 2 rfl) ?_
                  refine W.callV (W.runV (As := []) (rest := [.long u.2.2.1, .ref g0]) ⟨hx, hb, hml, hown, hts⟩ (mt_X4_immediateB l dC dI g0 g1 g2 cB cC u ) (cwV 0 hts gX4_87_X4_immediateB rfl rfl rfl (by decide +kernel) ⟨Nat.le_of_ble_eq_true rfl, Nat.le_of_ble_eq_true rfl⟩) (rd_V hK hP (ci := 1) (q0 := 0) rfl rfl rfl) rfl rfl hl.1 rfl (lv_room (Nat.le_of_ble_eq_true rfl)) dX4_branch_115 ⟨Nat.le_of_ble_eq_true rfl, Nat.le_of_ble_eq_true rfl⟩) ?_
                  refine W.eq (g2 := F0 m 118 ls [.long (f_X4_immediateB u), .long u.2.2.1, .ref g0]) rfl ?_
                  refine lv_ladd hx hb dX4_branch_118 ?_
                  refine lv_goto (tgt := 132) hx hb dX4_branch_119 (by decide) ?_
                  refine wr_calli (wr := []) (va_runV (As := [.long (u.2.2.1 + (f_X4_immediateB u))]) (rest := []) ⟨hx, hb, hml, hown, hts⟩ (mt_X4_go l dC dI g0 g1 g2 cB cC s.heap.size u (u.2.2.1 + (f_X4_immediateB u))) (cwV 1 hts gX4_91_X4_go rfl rfl rfl (by decide +kernel) ⟨Nat.le_of_ble_eq_true rfl, Nat.le_of_ble_eq_true rfl⟩) (wr_V hK hP hD (ci := 1) (q0 := 0) rfl rfl rfl) rfl rfl hl.1 rfl (lv_room (Nat.le_of_ble_eq_true rfl)) dX4_branch_132 ⟨Nat.le_of_ble_eq_true rfl, Nat.le_of_ble_eq_true rfl⟩) hS hP hD hA [0, 1, 2] [] rfl rfl (by decide) (by decide) (fun r_ v_ H locs hw hP hD hS => ?_)
                  obtain ⟨rfl, rfl⟩ := hw
                  refine W.eq (g2 := F0 m 135 ls [.int (f_X4_go u (u.2.2.1 + (f_X4_immediateB u))).1]) rfl ?_
                  have hP : va_P (dC, dI) vwCl (Wm g0 g1 g2 cB cC (f_X4_go u (u.2.2.1 + (f_X4_immediateB u))).2) H := hP
                  have hD : va_D A (Wm g0 g1 g2 cB cC (f_X4_go u (u.2.2.1 + (f_X4_immediateB u))).2) := hD
                  have hF : f_X4_branch u p0 = ((f_X4_go u (u.2.2.1 + (f_X4_immediateB u))).1, (f_X4_go u (u.2.2.1 + (f_X4_immediateB u))).2) := by unfold f_X4_branch; rw [if_neg c1, if_neg c2, if_pos c3, if_neg c4, if_neg c12, if_neg c20, if_pos c22, if_pos c23]
                  exact W.iret (v := (f_X4_go u (u.2.2.1 + (f_X4_immediateB u))).1) hx hb hr (fun t ht hW => ⟨⟨(f_X4_go u (u.2.2.1 + (f_X4_immediateB u))).1, (f_X4_go u (u.2.2.1 + (f_X4_immediateB u))).2, rfl, ⟨(congrArg Prod.fst hF).symm, (congrArg Prod.snd hF).symm⟩, by rw [ht]; exact hP, va_K.moved hW.alike hK, hD⟩, hS.F ht⟩) hS.2.2 dX4_branch_135
              · refine lv_iload_n hx hb dX4_branch_85 rfl (lv_at hl 2 rfl) ?_
                refine lv_bipush (v := (6 : Int32)) hx hb dX4_branch_86 (by decide) ?_
                refine lv_icmp_ne (tgt := 95) hx hb dX4_branch_88 (by decide) (fun c24 => ?_) (fun c24 => ?_)
                · refine lv_iconst (v := (0 : Int32)) hx hb dX4_branch_95 (by decide) ?_
                  refine lv_icmp_ne (tgt := 103) hx hb dX4_branch_96 (by decide) (fun c25 => ?_) (fun c25 => ?_)
                  · refine lv_iconst (v := (0 : Int32)) hx hb dX4_branch_103 (by decide) ?_
                    refine lv_istore_n (lv' := [(3, .int (0 : Int32)), (2, .int (1 : Int32)), (0, .ref g0), (1, .int p0)]) hx hb dX4_branch_104 rfl hl (by decide) rfl (fun ls hl => ?_)
                    refine lv_aload_n hx hb dX4_branch_105 rfl (lv_at hl 2 rfl) ?_
                    refine lv_iload_n hx hb dX4_branch_106 rfl (lv_at hl 0 rfl) ?_
                    refine lv_if_eq (tgt := 122) hx hb dX4_branch_107 (by decide) (fun _ => ?_) (fun c_ => absurd c_ (by decide))
                    refine lv_aload_n hx hb dX4_branch_122 rfl (lv_at hl 2 rfl) ?_
                    refine va_get (D := (dC, dI)) (ci := 1) (v := .long u.2.2.1) (C := RX4) (T := TX4) (N := 13) hx hb hts inX4 hown hK hP 0 rfl rfl 2 (by decide) (hts _ qw_281) (fun _ h9 => h9) rfl dX4_branch_123 ?_
                    refine lv_aload_n hx hb dX4_branch_126 rfl (lv_at hl 2 rfl) ?_
                    refine va_get (D := (dC, dI)) (ci := 1) (v := .int u.2.2.2.2.2.1) (C := RX4) (T := TX4) (N := 13) hx hb hts inX4 hown hK hP 0 rfl rfl 5 (by decide) (hts _ qw_284) (fun _ h9 => h9) rfl dX4_branch_127 ?_
                    refine lv_i2l (v := u.2.2.2.2.2.1.toInt64) hx hb dX4_branch_130 rfl ?_
                    refine lv_ladd hx hb dX4_branch_131 ?_
                    refine wr_calli (wr := []) (va_runV (As := [.long (u.2.2.1 + u.2.2.2.2.2.1.toInt64)]) (rest := []) ⟨hx, hb, hml, hown, hts⟩ (mt_X4_go l dC dI g0 g1 g2 cB cC s.heap.size u (u.2.2.1 + u.2.2.2.2.2.1.toInt64)) (cwV 1 hts gX4_91_X4_go rfl rfl rfl (by decide +kernel) ⟨Nat.le_of_ble_eq_true rfl, Nat.le_of_ble_eq_true rfl⟩) (wr_V hK hP hD (ci := 1) (q0 := 0) rfl rfl rfl) rfl rfl hl.1 rfl (lv_room (Nat.le_of_ble_eq_true rfl)) dX4_branch_132 ⟨Nat.le_of_ble_eq_true rfl, Nat.le_of_ble_eq_true rfl⟩) hS hP hD hA [0, 1, 2] [] rfl rfl (by decide) (by decide) (fun r_ v_ H locs hw hP hD hS => ?_)
                    obtain ⟨rfl, rfl⟩ := hw
                    refine W.eq (g2 := F0 m 135 ls [.int (f_X4_go u (u.2.2.1 + u.2.2.2.2.2.1.toInt64)).1]) rfl ?_
                    have hP : va_P (dC, dI) vwCl (Wm g0 g1 g2 cB cC (f_X4_go u (u.2.2.1 + u.2.2.2.2.2.1.toInt64)).2) H := hP
                    have hD : va_D A (Wm g0 g1 g2 cB cC (f_X4_go u (u.2.2.1 + u.2.2.2.2.2.1.toInt64)).2) := hD
                    have hF : f_X4_branch u p0 = ((f_X4_go u (u.2.2.1 + u.2.2.2.2.2.1.toInt64)).1, (f_X4_go u (u.2.2.1 + u.2.2.2.2.2.1.toInt64)).2) := by unfold f_X4_branch; rw [if_neg c1, if_neg c2, if_pos c3, if_neg c4, if_neg c12, if_neg c20, if_neg c22, if_neg c24, if_neg c25]
                    exact W.iret (v := (f_X4_go u (u.2.2.1 + u.2.2.2.2.2.1.toInt64)).1) hx hb hr (fun t ht hW => ⟨⟨(f_X4_go u (u.2.2.1 + u.2.2.2.2.2.1.toInt64)).1, (f_X4_go u (u.2.2.1 + u.2.2.2.2.2.1.toInt64)).2, rfl, ⟨(congrArg Prod.fst hF).symm, (congrArg Prod.snd hF).symm⟩, by rw [ht]; exact hP, va_K.moved hW.alike hK, hD⟩, hS.F ht⟩) hS.2.2 dX4_branch_135
                  · refine lv_iconst (v := (1 : Int32)) hx hb dX4_branch_99 (by decide) ?_
                    refine lv_goto (tgt := 104) hx hb dX4_branch_100 (by decide) ?_
                    refine lv_istore_n (lv' := [(3, .int (1 : Int32)), (2, .int (1 : Int32)), (0, .ref g0), (1, .int p0)]) hx hb dX4_branch_104 rfl hl (by decide) rfl (fun ls hl => ?_)
                    refine lv_aload_n hx hb dX4_branch_105 rfl (lv_at hl 2 rfl) ?_
                    refine lv_iload_n hx hb dX4_branch_106 rfl (lv_at hl 0 rfl) ?_
                    refine lv_if_eq (tgt := 122) hx hb dX4_branch_107 (by decide) (fun c_ => absurd c_ (by decide)) (fun _ => ?_)
                    refine lv_aload_n hx hb dX4_branch_110 rfl (lv_at hl 2 rfl) ?_
                    refine va_get (D := (dC, dI)) (ci := 1) (v := .long u.2.2.1) (C := RX4) (T := TX4) (N := 13) hx hb hts inX4 hown hK hP 0 rfl rfl 2 (by decide) (hts _ qw_281) (fun _ h9 => h9) rfl dX4_branch_111 ?_
                    refine lv_aload_n hx hb dX4_branch_114 rfl (lv_at hl 2 rfl) ?_
                    refine W.callV (W.runV (As := []) (rest := [.long u.2.2.1, .ref g0]) ⟨hx, hb, hml, hown, hts⟩ (mt_X4_immediateB l dC dI g0 g1 g2 cB cC u ) (cwV 0 hts gX4_87_X4_immediateB rfl rfl rfl (by decide +kernel) ⟨Nat.le_of_ble_eq_true rfl, Nat.le_of_ble_eq_true rfl⟩) (rd_V hK hP (ci := 1) (q0 := 0) rfl rfl rfl) rfl rfl hl.1 rfl (lv_room (Nat.le_of_ble_eq_true rfl)) dX4_branch_115 ⟨Nat.le_of_ble_eq_true rfl, Nat.le_of_ble_eq_true rfl⟩) ?_
                    refine W.eq (g2 := F0 m 118 ls [.long (f_X4_immediateB u), .long u.2.2.1, .ref g0]) rfl ?_
                    refine lv_ladd hx hb dX4_branch_118 ?_
                    refine lv_goto (tgt := 132) hx hb dX4_branch_119 (by decide) ?_
                    refine wr_calli (wr := []) (va_runV (As := [.long (u.2.2.1 + (f_X4_immediateB u))]) (rest := []) ⟨hx, hb, hml, hown, hts⟩ (mt_X4_go l dC dI g0 g1 g2 cB cC s.heap.size u (u.2.2.1 + (f_X4_immediateB u))) (cwV 1 hts gX4_91_X4_go rfl rfl rfl (by decide +kernel) ⟨Nat.le_of_ble_eq_true rfl, Nat.le_of_ble_eq_true rfl⟩) (wr_V hK hP hD (ci := 1) (q0 := 0) rfl rfl rfl) rfl rfl hl.1 rfl (lv_room (Nat.le_of_ble_eq_true rfl)) dX4_branch_132 ⟨Nat.le_of_ble_eq_true rfl, Nat.le_of_ble_eq_true rfl⟩) hS hP hD hA [0, 1, 2] [] rfl rfl (by decide) (by decide) (fun r_ v_ H locs hw hP hD hS => ?_)
                    obtain ⟨rfl, rfl⟩ := hw
                    refine W.eq (g2 := F0 m 135 ls [.int (f_X4_go u (u.2.2.1 + (f_X4_immediateB u))).1]) rfl ?_
                    have hP : va_P (dC, dI) vwCl (Wm g0 g1 g2 cB cC (f_X4_go u (u.2.2.1 + (f_X4_immediateB u))).2) H := hP
                    have hD : va_D A (Wm g0 g1 g2 cB cC (f_X4_go u (u.2.2.1 + (f_X4_immediateB u))).2) := hD
                    have hF : f_X4_branch u p0 = ((f_X4_go u (u.2.2.1 + (f_X4_immediateB u))).1, (f_X4_go u (u.2.2.1 + (f_X4_immediateB u))).2) := by unfold f_X4_branch; rw [if_neg c1, if_neg c2, if_pos c3, if_neg c4, if_neg c12, if_neg c20, if_neg c22, if_neg c24, if_pos c25]
                    exact W.iret (v := (f_X4_go u (u.2.2.1 + (f_X4_immediateB u))).1) hx hb hr (fun t ht hW => ⟨⟨(f_X4_go u (u.2.2.1 + (f_X4_immediateB u))).1, (f_X4_go u (u.2.2.1 + (f_X4_immediateB u))).2, rfl, ⟨(congrArg Prod.fst hF).symm, (congrArg Prod.snd hF).symm⟩, by rw [ht]; exact hP, va_K.moved hW.alike hK, hD⟩, hS.F ht⟩) hS.2.2 dX4_branch_135
                · refine lv_iconst (v := (1 : Int32)) hx hb dX4_branch_91 (by decide) ?_
                  refine lv_goto (tgt := 96) hx hb dX4_branch_92 (by decide) ?_
                  refine lv_icmp_ne (tgt := 103) hx hb dX4_branch_96 (by decide) (fun c26 => ?_) (fun c26 => ?_)
                  · refine lv_iconst (v := (0 : Int32)) hx hb dX4_branch_103 (by decide) ?_
                    refine lv_istore_n (lv' := [(3, .int (0 : Int32)), (2, .int (1 : Int32)), (0, .ref g0), (1, .int p0)]) hx hb dX4_branch_104 rfl hl (by decide) rfl (fun ls hl => ?_)
                    refine lv_aload_n hx hb dX4_branch_105 rfl (lv_at hl 2 rfl) ?_
                    refine lv_iload_n hx hb dX4_branch_106 rfl (lv_at hl 0 rfl) ?_
                    refine lv_if_eq (tgt := 122) hx hb dX4_branch_107 (by decide) (fun _ => ?_) (fun c_ => absurd c_ (by decide))
                    refine lv_aload_n hx hb dX4_branch_122 rfl (lv_at hl 2 rfl) ?_
                    refine va_get (D := (dC, dI)) (ci := 1) (v := .long u.2.2.1) (C := RX4) (T := TX4) (N := 13) hx hb hts inX4 hown hK hP 0 rfl rfl 2 (by decide) (hts _ qw_281) (fun _ h9 => h9) rfl dX4_branch_123 ?_
                    refine lv_aload_n hx hb dX4_branch_126 rfl (lv_at hl 2 rfl) ?_
                    refine va_get (D := (dC, dI)) (ci := 1) (v := .int u.2.2.2.2.2.1) (C := RX4) (T := TX4) (N := 13) hx hb hts inX4 hown hK hP 0 rfl rfl 5 (by decide) (hts _ qw_284) (fun _ h9 => h9) rfl dX4_branch_127 ?_
                    refine lv_i2l (v := u.2.2.2.2.2.1.toInt64) hx hb dX4_branch_130 rfl ?_
                    refine lv_ladd hx hb dX4_branch_131 ?_
                    refine wr_calli (wr := []) (va_runV (As := [.long (u.2.2.1 + u.2.2.2.2.2.1.toInt64)]) (rest := []) ⟨hx, hb, hml, hown, hts⟩ (mt_X4_go l dC dI g0 g1 g2 cB cC s.heap.size u (u.2.2.1 + u.2.2.2.2.2.1.toInt64)) (cwV 1 hts gX4_91_X4_go rfl rfl rfl (by decide +kernel) ⟨Nat.le_of_ble_eq_true rfl, Nat.le_of_ble_eq_true rfl⟩) (wr_V hK hP hD (ci := 1) (q0 := 0) rfl rfl rfl) rfl rfl hl.1 rfl (lv_room (Nat.le_of_ble_eq_true rfl)) dX4_branch_132 ⟨Nat.le_of_ble_eq_true rfl, Nat.le_of_ble_eq_true rfl⟩) hS hP hD hA [0, 1, 2] [] rfl rfl (by decide) (by decide) (fun r_ v_ H locs hw hP hD hS => ?_)
                    obtain ⟨rfl, rfl⟩ := hw
                    refine W.eq (g2 := F0 m 135 ls [.int (f_X4_go u (u.2.2.1 + u.2.2.2.2.2.1.toInt64)).1]) rfl ?_
                    have hP : va_P (dC, dI) vwCl (Wm g0 g1 g2 cB cC (f_X4_go u (u.2.2.1 + u.2.2.2.2.2.1.toInt64)).2) H := hP
                    have hD : va_D A (Wm g0 g1 g2 cB cC (f_X4_go u (u.2.2.1 + u.2.2.2.2.2.1.toInt64)).2) := hD
                    have hF : f_X4_branch u p0 = ((f_X4_go u (u.2.2.1 + u.2.2.2.2.2.1.toInt64)).1, (f_X4_go u (u.2.2.1 + u.2.2.2.2.2.1.toInt64)).2) := by unfold f_X4_branch; rw [if_neg c1, if_neg c2, if_pos c3, if_neg c4, if_neg c12, if_neg c20, if_neg c22, if_pos c24, if_neg c26]
                    exact W.iret (v := (f_X4_go u (u.2.2.1 + u.2.2.2.2.2.1.toInt64)).1) hx hb hr (fun t ht hW => ⟨⟨(f_X4_go u (u.2.2.1 + u.2.2.2.2.2.1.toInt64)).1, (f_X4_go u (u.2.2.1 + u.2.2.2.2.2.1.toInt64)).2, rfl, ⟨(congrArg Prod.fst hF).symm, (congrArg Prod.snd hF).symm⟩, by rw [ht]; exact hP, va_K.moved hW.alike hK, hD⟩, hS.F ht⟩) hS.2.2 dX4_branch_135
                  · refine lv_iconst (v := (1 : Int32)) hx hb dX4_branch_99 (by decide) ?_
                    refine lv_goto (tgt := 104) hx hb dX4_branch_100 (by decide) ?_
                    refine lv_istore_n (lv' := [(3, .int (1 : Int32)), (2, .int (1 : Int32)), (0, .ref g0), (1, .int p0)]) hx hb dX4_branch_104 rfl hl (by decide) rfl (fun ls hl => ?_)
                    refine lv_aload_n hx hb dX4_branch_105 rfl (lv_at hl 2 rfl) ?_
                    refine lv_iload_n hx hb dX4_branch_106 rfl (lv_at hl 0 rfl) ?_
                    refine lv_if_eq (tgt := 122) hx hb dX4_branch_107 (by decide) (fun c_ => absurd c_ (by decide)) (fun _ => ?_)
                    refine lv_aload_n hx hb dX4_branch_110 rfl (lv_at hl 2 rfl) ?_
                    refine va_get (D := (dC, dI)) (ci := 1) (v := .long u.2.2.1) (C := RX4) (T := TX4) (N := 13) hx hb hts inX4 hown hK hP 0 rfl rfl 2 (by decide) (hts _ qw_281) (fun _ h9 => h9) rfl dX4_branch_111 ?_
                    refine lv_aload_n hx hb dX4_branch_114 rfl (lv_at hl 2 rfl) ?_
                    refine W.callV (W.runV (As := []) (rest := [.long u.2.2.1, .ref g0]) ⟨hx, hb, hml, hown, hts⟩ (mt_X4_immediateB l dC dI g0 g1 g2 cB cC u ) (cwV 0 hts gX4_87_X4_immediateB rfl rfl rfl (by decide +kernel) ⟨Nat.le_of_ble_eq_true rfl, Nat.le_of_ble_eq_true rfl⟩) (rd_V hK hP (ci := 1) (q0 := 0) rfl rfl rfl) rfl rfl hl.1 rfl (lv_room (Nat.le_of_ble_eq_true rfl)) dX4_branch_115 ⟨Nat.le_of_ble_eq_true rfl, Nat.le_of_ble_eq_true rfl⟩) ?_
                    refine W.eq (g2 := F0 m 118 ls [.long (f_X4_immediateB u), .long u.2.2.1, .ref g0]) rfl ?_
                    refine lv_ladd hx hb dX4_branch_118 ?_
                    refine lv_goto (tgt := 132) hx hb dX4_branch_119 (by decide) ?_
                    refine wr_calli (wr := []) (va_runV (As := [.long (u.2.2.1 + (f_X4_immediateB u))]) (rest := []) ⟨hx, hb, hml, hown, hts⟩ (mt_X4_go l dC dI g0 g1 g2 cB cC s.heap.size u (u.2.2.1 + (f_X4_immediateB u))) (cwV 1 hts gX4_91_X4_go rfl rfl rfl (by decide +kernel) ⟨Nat.le_of_ble_eq_true rfl, Nat.le_of_ble_eq_true rfl⟩) (wr_V hK hP hD (ci := 1) (q0 := 0) rfl rfl rfl) rfl rfl hl.1 rfl (lv_room (Nat.le_of_ble_eq_true rfl)) dX4_branch_132 ⟨Nat.le_of_ble_eq_true rfl, Nat.le_of_ble_eq_true rfl⟩) hS hP hD hA [0, 1, 2] [] rfl rfl (by decide) (by decide) (fun r_ v_ H locs hw hP hD hS => ?_)
                    obtain ⟨rfl, rfl⟩ := hw
                    refine W.eq (g2 := F0 m 135 ls [.int (f_X4_go u (u.2.2.1 + (f_X4_immediateB u))).1]) rfl ?_
                    have hP : va_P (dC, dI) vwCl (Wm g0 g1 g2 cB cC (f_X4_go u (u.2.2.1 + (f_X4_immediateB u))).2) H := hP
                    have hD : va_D A (Wm g0 g1 g2 cB cC (f_X4_go u (u.2.2.1 + (f_X4_immediateB u))).2) := hD
                    have hF : f_X4_branch u p0 = ((f_X4_go u (u.2.2.1 + (f_X4_immediateB u))).1, (f_X4_go u (u.2.2.1 + (f_X4_immediateB u))).2) := by unfold f_X4_branch; rw [if_neg c1, if_neg c2, if_pos c3, if_neg c4, if_neg c12, if_neg c20, if_neg c22, if_pos c24, if_pos c26]
                    exact W.iret (v := (f_X4_go u (u.2.2.1 + (f_X4_immediateB u))).1) hx hb hr (fun t ht hW => ⟨⟨(f_X4_go u (u.2.2.1 + (f_X4_immediateB u))).1, (f_X4_go u (u.2.2.1 + (f_X4_immediateB u))).2, rfl, ⟨(congrArg Prod.fst hF).symm, (congrArg Prod.snd hF).symm⟩, by rw [ht]; exact hP, va_K.moved hW.alike hK, hD⟩, hS.F ht⟩) hS.2.2 dX4_branch_135
      · refine lv_aload_n hx hb dX4_branch_17 rfl (lv_at hl 0 rfl) ?_
        refine va_get (D := (dC, dI)) (ci := 1) (v := .long u.2.2.2.2.2.2.1) (C := RX4) (T := TX4) (N := 13) hx hb hts inX4 hown hK hP 0 rfl rfl 6 (by decide) (hts _ qw_287) (fun _ h9 => h9) rfl dX4_branch_18 ?_
        refine lv_aload_n hx hb dX4_branch_21 rfl (lv_at hl 0 rfl) ?_
        refine va_get (D := (dC, dI)) (ci := 1) (v := .long u.2.2.2.2.2.2.2.1) (C := RX4) (T := TX4) (N := 13) hx hb hts inX4 hown hK hP 0 rfl rfl 7 (by decide) (hts _ qw_288) (fun _ h9 => h9) rfl dX4_branch_22 ?_
        refine W.lcmp hx hb dX4_branch_25 ?_
        refine lv_if_ne (tgt := 33) hx hb dX4_branch_26 (by decide) (fun c27 => ?_) (fun c27 => ?_)
        · have c27 := mt (lg_cmp_eq u.2.2.2.2.2.2.1 u.2.2.2.2.2.2.2.1).mpr c27
          refine lv_iconst (v := (0 : Int32)) hx hb dX4_branch_33 (by decide) ?_
          refine lv_goto (tgt := 74) hx hb dX4_branch_34 (by decide) ?_
          refine lv_istore_n (lv' := [(2, .int (0 : Int32)), (0, .ref g0), (1, .int p0)]) hx hb dX4_branch_74 rfl hl (by decide) rfl (fun ls hl => ?_)
          refine lv_iload_n hx hb dX4_branch_75 rfl (lv_at hl 0 rfl) ?_
          refine lv_iload_n hx hb dX4_branch_76 rfl (lv_at hl 2 rfl) ?_
          refine lv_if_eq (tgt := 91) hx hb dX4_branch_77 (by decide) (fun c28 => ?_) (fun c28 => ?_)
          · refine lv_iconst (v := (1 : Int32)) hx hb dX4_branch_91 (by decide) ?_
            refine lv_goto (tgt := 96) hx hb dX4_branch_92 (by decide) ?_
            refine lv_icmp_ne (tgt := 103) hx hb dX4_branch_96 (by decide) (fun c29 => ?_) (fun c29 => ?_)
            · refine lv_iconst (v := (0 : Int32)) hx hb dX4_branch_103 (by decide) ?_
              refine lv_istore_n (lv' := [(3, .int (0 : Int32)), (2, .int (0 : Int32)), (0, .ref g0), (1, .int p0)]) hx hb dX4_branch_104 rfl hl (by decide) rfl (fun ls hl => ?_)
              refine lv_aload_n hx hb dX4_branch_105 rfl (lv_at hl 2 rfl) ?_
              refine lv_iload_n hx hb dX4_branch_106 rfl (lv_at hl 0 rfl) ?_
              refine lv_if_eq (tgt := 122) hx hb dX4_branch_107 (by decide) (fun _ => ?_) (fun c_ => absurd c_ (by decide))
              refine lv_aload_n hx hb dX4_branch_122 rfl (lv_at hl 2 rfl) ?_
              refine va_get (D := (dC, dI)) (ci := 1) (v := .long u.2.2.1) (C := RX4) (T := TX4) (N := 13) hx hb hts inX4 hown hK hP 0 rfl rfl 2 (by decide) (hts _ qw_281) (fun _ h9 => h9) rfl dX4_branch_123 ?_
              refine lv_aload_n hx hb dX4_branch_126 rfl (lv_at hl 2 rfl) ?_
              refine va_get (D := (dC, dI)) (ci := 1) (v := .int u.2.2.2.2.2.1) (C := RX4) (T := TX4) (N := 13) hx hb hts inX4 hown hK hP 0 rfl rfl 5 (by decide) (hts _ qw_284) (fun _ h9 => h9) rfl dX4_branch_127 ?_
              refine lv_i2l (v := u.2.2.2.2.2.1.toInt64) hx hb dX4_branch_130 rfl ?_
              refine lv_ladd hx hb dX4_branch_131 ?_
              refine wr_calli (wr := []) (va_runV (As := [.long (u.2.2.1 + u.2.2.2.2.2.1.toInt64)]) (rest := []) ⟨hx, hb, hml, hown, hts⟩ (mt_X4_go l dC dI g0 g1 g2 cB cC s.heap.size u (u.2.2.1 + u.2.2.2.2.2.1.toInt64)) (cwV 1 hts gX4_91_X4_go rfl rfl rfl (by decide +kernel) ⟨Nat.le_of_ble_eq_true rfl, Nat.le_of_ble_eq_true rfl⟩) (wr_V hK hP hD (ci := 1) (q0 := 0) rfl rfl rfl) rfl rfl hl.1 rfl (lv_room (Nat.le_of_ble_eq_true rfl)) dX4_branch_132 ⟨Nat.le_of_ble_eq_true rfl, Nat.le_of_ble_eq_true rfl⟩) hS hP hD hA [0, 1, 2] [] rfl rfl (by decide) (by decide) (fun r_ v_ H locs hw hP hD hS => ?_)
              obtain ⟨rfl, rfl⟩ := hw
              refine W.eq (g2 := F0 m 135 ls [.int (f_X4_go u (u.2.2.1 + u.2.2.2.2.2.1.toInt64)).1]) rfl ?_
              have hP : va_P (dC, dI) vwCl (Wm g0 g1 g2 cB cC (f_X4_go u (u.2.2.1 + u.2.2.2.2.2.1.toInt64)).2) H := hP
              have hD : va_D A (Wm g0 g1 g2 cB cC (f_X4_go u (u.2.2.1 + u.2.2.2.2.2.1.toInt64)).2) := hD
              have hF : f_X4_branch u p0 = ((f_X4_go u (u.2.2.1 + u.2.2.2.2.2.1.toInt64)).1, (f_X4_go u (u.2.2.1 + u.2.2.2.2.2.1.toInt64)).2) := by unfold f_X4_branch; rw [if_neg c1, if_neg c2, if_neg c3, if_neg c27, if_pos c28, if_neg c29]
              exact W.iret (v := (f_X4_go u (u.2.2.1 + u.2.2.2.2.2.1.toInt64)).1) hx hb hr (fun t ht hW => ⟨⟨(f_X4_go u (u.2.2.1 + u.2.2.2.2.2.1.toInt64)).1, (f_X4_go u (u.2.2.1 + u.2.2.2.2.2.1.toInt64)).2, rfl, ⟨(congrArg Prod.fst hF).symm, (congrArg Prod.snd hF).symm⟩, by rw [ht]; exact hP, va_K.moved hW.alike hK, hD⟩, hS.F ht⟩) hS.2.2 dX4_branch_135
            · refine lv_iconst (v := (1 : Int32)) hx hb dX4_branch_99 (by decide) ?_
              refine lv_goto (tgt := 104) hx hb dX4_branch_100 (by decide) ?_
              refine lv_istore_n (lv' := [(3, .int (1 : Int32)), (2, .int (0 : Int32)), (0, .ref g0), (1, .int p0)]) hx hb dX4_branch_104 rfl hl (by decide) rfl (fun ls hl => ?_)
              refine lv_aload_n hx hb dX4_branch_105 rfl (lv_at hl 2 rfl) ?_
              refine lv_iload_n hx hb dX4_branch_106 rfl (lv_at hl 0 rfl) ?_
              refine lv_if_eq (tgt := 122) hx hb dX4_branch_107 (by decide) (fun c_ => absurd c_ (by decide)) (fun _ => ?_)
              refine lv_aload_n hx hb dX4_branch_110 rfl (lv_at hl 2 rfl) ?_
              refine va_get (D := (dC, dI)) (ci := 1) (v := .long u.2.2.1) (C := RX4) (T := TX4) (N := 13) hx hb hts inX4 hown hK hP 0 rfl rfl 2 (by decide) (hts _ qw_281) (fun _ h9 => h9) rfl dX4_branch_111 ?_
              refine lv_aload_n hx hb dX4_branch_114 rfl (lv_at hl 2 rfl) ?_
              refine W.callV (W.runV (As := []) (rest := [.long u.2.2.1, .ref g0]) ⟨hx, hb, hml, hown, hts⟩ (mt_X4_immediateB l dC dI g0 g1 g2 cB cC u ) (cwV 0 hts gX4_87_X4_immediateB rfl rfl rfl (by decide +kernel) ⟨Nat.le_of_ble_eq_true rfl, Nat.le_of_ble_eq_true rfl⟩) (rd_V hK hP (ci := 1) (q0 := 0) rfl rfl rfl) rfl rfl hl.1 rfl (lv_room (Nat.le_of_ble_eq_true rfl)) dX4_branch_115 ⟨Nat.le_of_ble_eq_true rfl, Nat.le_of_ble_eq_true rfl⟩) ?_
              refine W.eq (g2 := F0 m 118 ls [.long (f_X4_immediateB u), .long u.2.2.1, .ref g0]) rfl ?_
              refine lv_ladd hx hb dX4_branch_118 ?_
              refine lv_goto (tgt := 132) hx hb dX4_branch_119 (by decide) ?_
              refine wr_calli (wr := []) (va_runV (As := [.long (u.2.2.1 + (f_X4_immediateB u))]) (rest := []) ⟨hx, hb, hml, hown, hts⟩ (mt_X4_go l dC dI g0 g1 g2 cB cC s.heap.size u (u.2.2.1 + (f_X4_immediateB u))) (cwV 1 hts gX4_91_X4_go rfl rfl rfl (by decide +kernel) ⟨Nat.le_of_ble_eq_true rfl, Nat.le_of_ble_eq_true rfl⟩) (wr_V hK hP hD (ci := 1) (q0 := 0) rfl rfl rfl) rfl rfl hl.1 rfl (lv_room (Nat.le_of_ble_eq_true rfl)) dX4_branch_132 ⟨Nat.le_of_ble_eq_true rfl, Nat.le_of_ble_eq_true rfl⟩) hS hP hD hA [0, 1, 2] [] rfl rfl (by decide) (by decide) (fun r_ v_ H locs hw hP hD hS => ?_)
              obtain ⟨rfl, rfl⟩ := hw
              refine W.eq (g2 := F0 m 135 ls [.int (f_X4_go u (u.2.2.1 + (f_X4_immediateB u))).1]) rfl ?_
              have hP : va_P (dC, dI) vwCl (Wm g0 g1 g2 cB cC (f_X4_go u (u.2.2.1 + (f_X4_immediateB u))).2) H := hP
              have hD : va_D A (Wm g0 g1 g2 cB cC (f_X4_go u (u.2.2.1 + (f_X4_immediateB u))).2) := hD
              have hF : f_X4_branch u p0 = ((f_X4_go u (u.2.2.1 + (f_X4_immediateB u))).1, (f_X4_go u (u.2.2.1 + (f_X4_immediateB u))).2) := by unfold f_X4_branch; rw [if_neg c1, if_neg c2, if_neg c3, if_neg c27, if_pos c28, if_pos c29]
              exact W.iret (v := (f_X4_go u (u.2.2.1 + (f_X4_immediateB u))).1) hx hb hr (fun t ht hW => ⟨⟨(f_X4_go u (u.2.2.1 + (f_X4_immediateB u))).1, (f_X4_go u (u.2.2.1 + (f_X4_immediateB u))).2, rfl, ⟨(congrArg Prod.fst hF).symm, (congrArg Prod.snd hF).symm⟩, by rw [ht]; exact hP, va_K.moved hW.alike hK, hD⟩, hS.F ht⟩) hS.2.2 dX4_branch_135
          · refine lv_iload_n hx hb dX4_branch_80 rfl (lv_at hl 2 rfl) ?_
            refine lv_iconst (v := (4 : Int32)) hx hb dX4_branch_81 (by decide) ?_
            refine lv_icmp_eq (tgt := 91) hx hb dX4_branch_82 (by decide) (fun c30 => ?_) (fun c30 => ?_)
            · refine lv_iconst (v := (1 : Int32)) hx hb dX4_branch_91 (by decide) ?_
              refine lv_goto (tgt := 96) hx hb dX4_branch_92 (by decide) ?_
              refine lv_icmp_ne (tgt := 103) hx hb dX4_branch_96 (by decide) (fun c31 => ?_) (fun c31 => ?_)
              · refine lv_iconst (v := (0 : Int32)) hx hb dX4_branch_103 (by decide) ?_
                refine lv_istore_n (lv' := [(3, .int (0 : Int32)), (2, .int (0 : Int32)), (0, .ref g0), (1, .int p0)]) hx hb dX4_branch_104 rfl hl (by decide) rfl (fun ls hl => ?_)
                refine lv_aload_n hx hb dX4_branch_105 rfl (lv_at hl 2 rfl) ?_
                refine lv_iload_n hx hb dX4_branch_106 rfl (lv_at hl 0 rfl) ?_
                refine lv_if_eq (tgt := 122) hx hb dX4_branch_107 (by decide) (fun _ => ?_) (fun c_ => absurd c_ (by decide))
                refine lv_aload_n hx hb dX4_branch_122 rfl (lv_at hl 2 rfl) ?_
                refine va_get (D := (dC, dI)) (ci := 1) (v := .long u.2.2.1) (C := RX4) (T := TX4) (N := 13) hx hb hts inX4 hown hK hP 0 rfl rfl 2 (by decide) (hts _ qw_281) (fun _ h9 => h9) rfl dX4_branch_123 ?_
                refine lv_aload_n hx hb dX4_branch_126 rfl (lv_at hl 2 rfl) ?_
                refine va_get (D := (dC, dI)) (ci := 1) (v := .int u.2.2.2.2.2.1) (C := RX4) (T := TX4) (N := 13) hx hb hts inX4 hown hK hP 0 rfl rfl 5 (by decide) (hts _ qw_284) (fun _ h9 => h9) rfl dX4_branch_127 ?_
                refine lv_i2l (v := u.2.2.2.2.2.1.toInt64) hx hb dX4_branch_130 rfl ?_
                refine lv_ladd hx hb dX4_branch_131 ?_
                refine wr_calli (wr := []) (va_runV (As := [.long (u.2.2.1 + u.2.2.2.2.2.1.toInt64)]) (rest := []) ⟨hx, hb, hml, hown, hts⟩ (mt_X4_go l dC dI g0 g1 g2 cB cC s.heap.size u (u.2.2.1 + u.2.2.2.2.2.1.toInt64)) (cwV 1 hts gX4_91_X4_go rfl rfl rfl (by decide +kernel) ⟨Nat.le_of_ble_eq_true rfl, Nat.le_of_ble_eq_true rfl⟩) (wr_V hK hP hD (ci := 1) (q0 := 0) rfl rfl rfl) rfl rfl hl.1 rfl (lv_room (Nat.le_of_ble_eq_true rfl)) dX4_branch_132 ⟨Nat.le_of_ble_eq_true rfl, Nat.le_of_ble_eq_true rfl⟩) hS hP hD hA [0, 1, 2] [] rfl rfl (by decide) (by decide) (fun r_ v_ H locs hw hP hD hS => ?_)
                obtain ⟨rfl, rfl⟩ := hw
                refine W.eq (g2 := F0 m 135 ls [.int (f_X4_go u (u.2.2.1 + u.2.2.2.2.2.1.toInt64)).1]) rfl ?_
                have hP : va_P (dC, dI) vwCl (Wm g0 g1 g2 cB cC (f_X4_go u (u.2.2.1 + u.2.2.2.2.2.1.toInt64)).2) H := hP
                have hD : va_D A (Wm g0 g1 g2 cB cC (f_X4_go u (u.2.2.1 + u.2.2.2.2.2.1.toInt64)).2) := hD
                have hF : f_X4_branch u p0 = ((f_X4_go u (u.2.2.1 + u.2.2.2.2.2.1.toInt64)).1, (f_X4_go u (u.2.2.1 + u.2.2.2.2.2.1.toInt64)).2) := by unfold f_X4_branch; rw [if_neg c1, if_neg c2, if_neg c3, if_neg c27, if_neg c28, if_pos c30, if_neg c31]
                exact W.iret (v := (f_X4_go u (u.2.2.1 + u.2.2.2.2.2.1.toInt64)).1) hx hb hr (fun t ht hW => ⟨⟨(f_X4_go u (u.2.2.1 + u.2.2.2.2.2.1.toInt64)).1, (f_X4_go u (u.2.2.1 + u.2.2.2.2.2.1.toInt64)).2, rfl, ⟨(congrArg Prod.fst hF).symm, (congrArg Prod.snd hF).symm⟩, by rw [ht]; exact hP, va_K.moved hW.alike hK, hD⟩, hS.F ht⟩) hS.2.2 dX4_branch_135
              · refine lv_iconst (v := (1 : Int32)) hx hb dX4_branch_99 (by decide) ?_
                refine lv_goto (tgt := 104) hx hb dX4_branch_100 (by decide) ?_
                refine lv_istore_n (lv' := [(3, .int (1 : Int32)), (2, .int (0 : Int32)), (0, .ref g0), (1, .int p0)]) hx hb dX4_branch_104 rfl hl (by decide) rfl (fun ls hl => ?_)
                refine lv_aload_n hx hb dX4_branch_105 rfl (lv_at hl 2 rfl) ?_
                refine lv_iload_n hx hb dX4_branch_106 rfl (lv_at hl 0 rfl) ?_
                refine lv_if_eq (tgt := 122) hx hb dX4_branch_107 (by decide) (fun c_ => absurd c_ (by decide)) (fun _ => ?_)
                refine lv_aload_n hx hb dX4_branch_110 rfl (lv_at hl 2 rfl) ?_
                refine va_get (D := (dC, dI)) (ci := 1) (v := .long u.2.2.1) (C := RX4) (T := TX4) (N := 13) hx hb hts inX4 hown hK hP 0 rfl rfl 2 (by decide) (hts _ qw_281) (fun _ h9 => h9) rfl dX4_branch_111 ?_
                refine lv_aload_n hx hb dX4_branch_114 rfl (lv_at hl 2 rfl) ?_
                refine W.callV (W.runV (As := []) (rest := [.long u.2.2.1, .ref g0]) ⟨hx, hb, hml, hown, hts⟩ (mt_X4_immediateB l dC dI g0 g1 g2 cB cC u ) (cwV 0 hts gX4_87_X4_immediateB rfl rfl rfl (by decide +kernel) ⟨Nat.le_of_ble_eq_true rfl, Nat.le_of_ble_eq_true rfl⟩) (rd_V hK hP (ci := 1) (q0 := 0) rfl rfl rfl) rfl rfl hl.1 rfl (lv_room (Nat.le_of_ble_eq_true rfl)) dX4_branch_115 ⟨Nat.le_of_ble_eq_true rfl, Nat.le_of_ble_eq_true rfl⟩) ?_
                refine W.eq (g2 := F0 m 118 ls [.long (f_X4_immediateB u), .long u.2.2.1, .ref g0]) rfl ?_
                refine lv_ladd hx hb dX4_branch_118 ?_
                refine lv_goto (tgt := 132) hx hb dX4_branch_119 (by decide) ?_
                refine wr_calli (wr := []) (va_runV (As := [.long (u.2.2.1 + (f_X4_immediateB u))]) (rest := []) ⟨hx, hb, hml, hown, hts⟩ (mt_X4_go l dC dI g0 g1 g2 cB cC s.heap.size u (u.2.2.1 + (f_X4_immediateB u))) (cwV 1 hts gX4_91_X4_go rfl rfl rfl (by decide +kernel) ⟨Nat.le_of_ble_eq_true rfl, Nat.le_of_ble_eq_true rfl⟩) (wr_V hK hP hD (ci := 1) (q0 := 0) rfl rfl rfl) rfl rfl hl.1 rfl (lv_room (Nat.le_of_ble_eq_true rfl)) dX4_branch_132 ⟨Nat.le_of_ble_eq_true rfl, Nat.le_of_ble_eq_true rfl⟩) hS hP hD hA [0, 1, 2] [] rfl rfl (by decide) (by decide) (fun r_ v_ H locs hw hP hD hS => ?_)
                obtain ⟨rfl, rfl⟩ := hw
                refine W.eq (g2 := F0 m 135 ls [.int (f_X4_go u (u.2.2.1 + (f_X4_immediateB u))).1]) rfl ?_
                have hP : va_P (dC, dI) vwCl (Wm g0 g1 g2 cB cC (f_X4_go u (u.2.2.1 + (f_X4_immediateB u))).2) H := hP
                have hD : va_D A (Wm g0 g1 g2 cB cC (f_X4_go u (u.2.2.1 + (f_X4_immediateB u))).2) := hD
                have hF : f_X4_branch u p0 = ((f_X4_go u (u.2.2.1 + (f_X4_immediateB u))).1, (f_X4_go u (u.2.2.1 + (f_X4_immediateB u))).2) := by unfold f_X4_branch; rw [if_neg c1, if_neg c2, if_neg c3, if_neg c27, if_neg c28, if_pos c30, if_pos c31]
                exact W.iret (v := (f_X4_go u (u.2.2.1 + (f_X4_immediateB u))).1) hx hb hr (fun t ht hW => ⟨⟨(f_X4_go u (u.2.2.1 + (f_X4_immediateB u))).1, (f_X4_go u (u.2.2.1 + (f_X4_immediateB u))).2, rfl, ⟨(congrArg Prod.fst hF).symm, (congrArg Prod.snd hF).symm⟩, by rw [ht]; exact hP, va_K.moved hW.alike hK, hD⟩, hS.F ht⟩) hS.2.2 dX4_branch_135
            · refine lv_iload_n hx hb dX4_branch_85 rfl (lv_at hl 2 rfl) ?_
              refine lv_bipush (v := (6 : Int32)) hx hb dX4_branch_86 (by decide) ?_
              refine lv_icmp_ne (tgt := 95) hx hb dX4_branch_88 (by decide) (fun c32 => ?_) (fun c32 => ?_)
              · refine lv_iconst (v := (0 : Int32)) hx hb dX4_branch_95 (by decide) ?_
                refine lv_icmp_ne (tgt := 103) hx hb dX4_branch_96 (by decide) (fun c33 => ?_) (fun c33 => ?_)
                · refine lv_iconst (v := (0 : Int32)) hx hb dX4_branch_103 (by decide) ?_
                  refine lv_istore_n (lv' := [(3, .int (0 : Int32)), (2, .int (0 : Int32)), (0, .ref g0), (1, .int p0)]) hx hb dX4_branch_104 rfl hl (by decide) rfl (fun ls hl => ?_)
                  refine lv_aload_n hx hb dX4_branch_105 rfl (lv_at hl 2 rfl) ?_
                  refine lv_iload_n hx hb dX4_branch_106 rfl (lv_at hl 0 rfl) ?_
                  refine lv_if_eq (tgt := 122) hx hb dX4_branch_107 (by decide) (fun _ => ?_) (fun c_ => absurd c_ (by decide))
                  refine lv_aload_n hx hb dX4_branch_122 rfl (lv_at hl 2 rfl) ?_
                  refine va_get (D := (dC, dI)) (ci := 1) (v := .long u.2.2.1) (C := RX4) (T := TX4) (N := 13) hx hb hts inX4 hown hK hP 0 rfl rfl 2 (by decide) (hts _ qw_281) (fun _ h9 => h9) rfl dX4_branch_123 ?_
                  refine lv_aload_n hx hb dX4_branch_126 rfl (lv_at hl 2 rfl) ?_
                  refine va_get (D := (dC, dI)) (ci := 1) (v := .int u.2.2.2.2.2.1) (C := RX4) (T := TX4) (N := 13) hx hb hts inX4 hown hK hP 0 rfl rfl 5 (by decide) (hts _ qw_284) (fun _ h9 => h9) rfl dX4_branch_127 ?_
                  refine lv_i2l (v := u.2.2.2.2.2.1.toInt64) hx hb dX4_branch_130 rfl ?_
                  refine lv_ladd hx hb dX4_branch_131 ?_
                  refine wr_calli (wr := []) (va_runV (As := [.long (u.2.2.1 + u.2.2.2.2.2.1.toInt64)]) (rest := []) ⟨hx, hb, hml, hown, hts⟩ (mt_X4_go l dC dI g0 g1 g2 cB cC s.heap.size u (u.2.2.1 + u.2.2.2.2.2.1.toInt64)) (cwV 1 hts gX4_91_X4_go rfl rfl rfl (by decide +kernel) ⟨Nat.le_of_ble_eq_true rfl, Nat.le_of_ble_eq_true rfl⟩) (wr_V hK hP hD (ci := 1) (q0 := 0) rfl rfl rfl) rfl rfl hl.1 rfl (lv_room (Nat.le_of_ble_eq_true rfl)) dX4_branch_132 ⟨Nat.le_of_ble_eq_true rfl, Nat.le_of_ble_eq_true rfl⟩) hS hP hD hA [0, 1, 2] [] rfl rfl (by decide) (by decide) (fun r_ v_ H locs hw hP hD hS => ?_)
                  obtain ⟨rfl, rfl⟩ := hw
                  refine W.eq (g2 := F0 m 135 ls [.int (f_X4_go u (u.2.2.1 + u.2.2.2.2.2.1.toInt64)).1]) rfl ?_
                  have hP : va_P (dC, dI) vwCl (Wm g0 g1 g2 cB cC (f_X4_go u (u.2.2.1 + u.2.2.2.2.2.1.toInt64)).2) H := hP
                  have hD : va_D A (Wm g0 g1 g2 cB cC (f_X4_go u (u.2.2.1 + u.2.2.2.2.2.1.toInt64)).2) := hD
                  have hF : f_X4_branch u p0 = ((f_X4_go u (u.2.2.1 + u.2.2.2.2.2.1.toInt64)).1, (f_X4_go u (u.2.2.1 + u.2.2.2.2.2.1.toInt64)).2) := by unfold f_X4_branch; rw [if_neg c1, if_neg c2, if_neg c3, if_neg c27, if_neg c28, if_neg c30, if_neg c32, if_neg c33]
                  exact W.iret (v := (f_X4_go u (u.2.2.1 + u.2.2.2.2.2.1.toInt64)).1) hx hb hr (fun t ht hW => ⟨⟨(f_X4_go u (u.2.2.1 + u.2.2.2.2.2.1.toInt64)).1, (f_X4_go u (u.2.2.1 + u.2.2.2.2.2.1.toInt64)).2, rfl, ⟨(congrArg Prod.fst hF).symm, (congrArg Prod.snd hF).symm⟩, by rw [ht]; exact hP, va_K.moved hW.alike hK, hD⟩, hS.F ht⟩) hS.2.2 dX4_branch_135
                · refine lv_iconst (v := (1 : Int32)) hx hb dX4_branch_99 (by decide) ?_
                  refine lv_goto (tgt := 104) hx hb dX4_branch_100 (by decide) ?_
                  refine lv_istore_n (lv' := [(3, .int (1 : Int32)), (2, .int (0 : Int32)), (0, .ref g0), (1, .int p0)]) hx hb dX4_branch_104 rfl hl (by decide) rfl (fun ls hl => ?_)
                  refine lv_aload_n hx hb dX4_branch_105 rfl (lv_at hl 2 rfl) ?_
                  refine lv_iload_n hx hb dX4_branch_106 rfl (lv_at hl 0 rfl) ?_
                  refine lv_if_eq (tgt := 122) hx hb dX4_branch_107 (by decide) (fun c_ => absurd c_ (by decide)) (fun _ => ?_)
                  refine lv_aload_n hx hb dX4_branch_110 rfl (lv_at hl 2 rfl) ?_
                  refine va_get (D := (dC, dI)) (ci := 1) (v := .long u.2.2.1) (C := RX4) (T := TX4) (N := 13) hx hb hts inX4 hown hK hP 0 rfl rfl 2 (by decide) (hts _ qw_281) (fun _ h9 => h9) rfl dX4_branch_111 ?_
                  refine lv_aload_n hx hb dX4_branch_114 rfl (lv_at hl 2 rfl) ?_
                  refine W.callV (W.runV (As := []) (rest := [.long u.2.2.1, .ref g0]) ⟨hx, hb, hml, hown, hts⟩ (mt_X4_immediateB l dC dI g0 g1 g2 cB cC u ) (cwV 0 hts gX4_87_X4_immediateB rfl rfl rfl (by decide +kernel) ⟨Nat.le_of_ble_eq_true rfl, Nat.le_of_ble_eq_true rfl⟩) (rd_V hK hP (ci := 1) (q0 := 0) rfl rfl rfl) rfl rfl hl.1 rfl (lv_room (Nat.le_of_ble_eq_true rfl)) dX4_branch_115 ⟨Nat.le_of_ble_eq_true rfl, Nat.le_of_ble_eq_true rfl⟩) ?_
                  refine W.eq (g2 := F0 m 118 ls [.long (f_X4_immediateB u), .long u.2.2.1, .ref g0]) rfl ?_
                  refine lv_ladd hx hb dX4_branch_118 ?_
                  refine lv_goto (tgt := 132) hx hb dX4_branch_119 (by decide) ?_
                  refine wr_calli (wr := []) (va_runV (As := [.long (u.2.2.1 + (f_X4_immediateB u))]) (rest := []) ⟨hx, hb, hml, hown, hts⟩ (mt_X4_go l dC dI g0 g1 g2 cB cC s.heap.size u (u.2.2.1 + (f_X4_immediateB u))) (cwV 1 hts gX4_91_X4_go rfl rfl rfl (by decide +kernel) ⟨Nat.le_of_ble_eq_true rfl, Nat.le_of_ble_eq_true rfl⟩) (wr_V hK hP hD (ci := 1) (q0 := 0) rfl rfl rfl) rfl rfl hl.1 rfl (lv_room (Nat.le_of_ble_eq_true rfl)) dX4_branch_132 ⟨Nat.le_of_ble_eq_true rfl, Nat.le_of_ble_eq_true rfl⟩) hS hP hD hA [0, 1, 2] [] rfl rfl (by decide) (by decide) (fun r_ v_ H locs hw hP hD hS => ?_)
                  obtain ⟨rfl, rfl⟩ := hw
                  refine W.eq (g2 := F0 m 135 ls [.int (f_X4_go u (u.2.2.1 + (f_X4_immediateB u))).1]) rfl ?_
                  have hP : va_P (dC, dI) vwCl (Wm g0 g1 g2 cB cC (f_X4_go u (u.2.2.1 + (f_X4_immediateB u))).2) H := hP
                  have hD : va_D A (Wm g0 g1 g2 cB cC (f_X4_go u (u.2.2.1 + (f_X4_immediateB u))).2) := hD
                  have hF : f_X4_branch u p0 = ((f_X4_go u (u.2.2.1 + (f_X4_immediateB u))).1, (f_X4_go u (u.2.2.1 + (f_X4_immediateB u))).2) := by unfold f_X4_branch; rw [if_neg c1, if_neg c2, if_neg c3, if_neg c27, if_neg c28, if_neg c30, if_neg c32, if_pos c33]
                  exact W.iret (v := (f_X4_go u (u.2.2.1 + (f_X4_immediateB u))).1) hx hb hr (fun t ht hW => ⟨⟨(f_X4_go u (u.2.2.1 + (f_X4_immediateB u))).1, (f_X4_go u (u.2.2.1 + (f_X4_immediateB u))).2, rfl, ⟨(congrArg Prod.fst hF).symm, (congrArg Prod.snd hF).symm⟩, by rw [ht]; exact hP, va_K.moved hW.alike hK, hD⟩, hS.F ht⟩) hS.2.2 dX4_branch_135
              · refine lv_iconst (v := (1 : Int32)) hx hb dX4_branch_91 (by decide) ?_
                refine lv_goto (tgt := 96) hx hb dX4_branch_92 (by decide) ?_
                refine lv_icmp_ne (tgt := 103) hx hb dX4_branch_96 (by decide) (fun c34 => ?_) (fun c34 => ?_)
                · refine lv_iconst (v := (0 : Int32)) hx hb dX4_branch_103 (by decide) ?_
                  refine lv_istore_n (lv' := [(3, .int (0 : Int32)), (2, .int (0 : Int32)), (0, .ref g0), (1, .int p0)]) hx hb dX4_branch_104 rfl hl (by decide) rfl (fun ls hl => ?_)
                  refine lv_aload_n hx hb dX4_branch_105 rfl (lv_at hl 2 rfl) ?_
                  refine lv_iload_n hx hb dX4_branch_106 rfl (lv_at hl 0 rfl) ?_
                  refine lv_if_eq (tgt := 122) hx hb dX4_branch_107 (by decide) (fun _ => ?_) (fun c_ => absurd c_ (by decide))
                  refine lv_aload_n hx hb dX4_branch_122 rfl (lv_at hl 2 rfl) ?_
                  refine va_get (D := (dC, dI)) (ci := 1) (v := .long u.2.2.1) (C := RX4) (T := TX4) (N := 13) hx hb hts inX4 hown hK hP 0 rfl rfl 2 (by decide) (hts _ qw_281) (fun _ h9 => h9) rfl dX4_branch_123 ?_
                  refine lv_aload_n hx hb dX4_branch_126 rfl (lv_at hl 2 rfl) ?_
                  refine va_get (D := (dC, dI)) (ci := 1) (v := .int u.2.2.2.2.2.1) (C := RX4) (T := TX4) (N := 13) hx hb hts inX4 hown hK hP 0 rfl rfl 5 (by decide) (hts _ qw_284) (fun _ h9 => h9) rfl dX4_branch_127 ?_
                  refine lv_i2l (v := u.2.2.2.2.2.1.toInt64) hx hb dX4_branch_130 rfl ?_
                  refine lv_ladd hx hb dX4_branch_131 ?_
                  refine wr_calli (wr := []) (va_runV (As := [.long (u.2.2.1 + u.2.2.2.2.2.1.toInt64)]) (rest := []) ⟨hx, hb, hml, hown, hts⟩ (mt_X4_go l dC dI g0 g1 g2 cB cC s.heap.size u (u.2.2.1 + u.2.2.2.2.2.1.toInt64)) (cwV 1 hts gX4_91_X4_go rfl rfl rfl (by decide +kernel) ⟨Nat.le_of_ble_eq_true rfl, Nat.le_of_ble_eq_true rfl⟩) (wr_V hK hP hD (ci := 1) (q0 := 0) rfl rfl rfl) rfl rfl hl.1 rfl (lv_room (Nat.le_of_ble_eq_true rfl)) dX4_branch_132 ⟨Nat.le_of_ble_eq_true rfl, Nat.le_of_ble_eq_true rfl⟩) hS hP hD hA [0, 1, 2] [] rfl rfl (by decide) (by decide) (fun r_ v_ H locs hw hP hD hS => ?_)
                  obtain ⟨rfl, rfl⟩ := hw
                  refine W.eq (g2 := F0 m 135 ls [.int (f_X4_go u (u.2.2.1 + u.2.2.2.2.2.1.toInt64)).1]) rfl ?_
                  have hP : va_P (dC, dI) vwCl (Wm g0 g1 g2 cB cC (f_X4_go u (u.2.2.1 + u.2.2.2.2.2.1.toInt64)).2) H := hP
                  have hD : va_D A (Wm g0 g1 g2 cB cC (f_X4_go u (u.2.2.1 + u.2.2.2.2.2.1.toInt64)).2) := hD
                  have hF : f_X4_branch u p0 = ((f_X4_go u (u.2.2.1 + u.2.2.2.2.2.1.toInt64)).1, (f_X4_go u (u.2.2.1 + u.2.2.2.2.2.1.toInt64)).2) := by unfold f_X4_branch; rw [if_neg c1, if_neg c2, if_neg c3, if_neg c27, if_neg c28, if_neg c30, if_pos c32, if_neg c34]
                  exact W.iret (v := (f_X4_go u (u.2.2.1 + u.2.2.2.2.2.1.toInt64)).1) hx hb hr (fun t ht hW => ⟨⟨(f_X4_go u (u.2.2.1 + u.2.2.2.2.2.1.toInt64)).1, (f_X4_go u (u.2.2.1 + u.2.2.2.2.2.1.toInt64)).2, rfl, ⟨(congrArg Prod.fst hF).symm, (congrArg Prod.snd hF).symm⟩, by rw [ht]; exact hP, va_K.moved hW.alike hK, hD⟩, hS.F ht⟩) hS.2.2 dX4_branch_135
                · refine lv_iconst (v := (1 : Int32)) hx hb dX4_branch_99 (by decide) ?_
                  refine lv_goto (tgt := 104) hx hb dX4_branch_100 (by decide) ?_
                  refine lv_istore_n (lv' := [(3, .int (1 : Int32)), (2, .int (0 : Int32)), (0, .ref g0), (1, .int p0)]) hx hb dX4_branch_104 rfl hl (by decide) rfl (fun ls hl => ?_)
                  refine lv_aload_n hx hb dX4_branch_105 rfl (lv_at hl 2 rfl) ?_
                  refine lv_iload_n hx hb dX4_branch_106 rfl (lv_at hl 0 rfl) ?_
                  refine lv_if_eq (tgt := 122) hx hb dX4_branch_107 (by decide) (fun c_ => absurd c_ (by decide)) (fun _ => ?_)
                  refine lv_aload_n hx hb dX4_branch_110 rfl (lv_at hl 2 rfl) ?_
                  refine va_get (D := (dC, dI)) (ci := 1) (v := .long u.2.2.1) (C := RX4) (T := TX4) (N := 13) hx hb hts inX4 hown hK hP 0 rfl rfl 2 (by decide) (hts _ qw_281) (fun _ h9 => h9) rfl dX4_branch_111 ?_
                  refine lv_aload_n hx hb dX4_branch_114 rfl (lv_at hl 2 rfl) ?_
                  refine W.callV (W.runV (As := []) (rest := [.long u.2.2.1, .ref g0]) ⟨hx, hb, hml, hown, hts⟩ (mt_X4_immediateB l dC dI g0 g1 g2 cB cC u ) (cwV 0 hts gX4_87_X4_immediateB rfl rfl rfl (by decide +kernel) ⟨Nat.le_of_ble_eq_true rfl, Nat.le_of_ble_eq_true rfl⟩) (rd_V hK hP (ci := 1) (q0 := 0) rfl rfl rfl) rfl rfl hl.1 rfl (lv_room (Nat.le_of_ble_eq_true rfl)) dX4_branch_115 ⟨Nat.le_of_ble_eq_true rfl, Nat.le_of_ble_eq_true rfl⟩) ?_
                  refine W.eq (g2 := F0 m 118 ls [.long (f_X4_immediateB u), .long u.2.2.1, .ref g0]) rfl ?_
                  refine lv_ladd hx hb dX4_branch_118 ?_
                  refine lv_goto (tgt := 132) hx hb dX4_branch_119 (by decide) ?_
                  refine wr_calli (wr := []) (va_runV (As := [.long (u.2.2.1 + (f_X4_immediateB u))]) (rest := []) ⟨hx, hb, hml, hown, hts⟩ (mt_X4_go l dC dI g0 g1 g2 cB cC s.heap.size u (u.2.2.1 + (f_X4_immediateB u))) (cwV 1 hts gX4_91_X4_go rfl rfl rfl (by decide +kernel) ⟨Nat.le_of_ble_eq_true rfl, Nat.le_of_ble_eq_true rfl⟩) (wr_V hK hP hD (ci := 1) (q0 := 0) rfl rfl rfl) rfl rfl hl.1 rfl (lv_room (Nat.le_of_ble_eq_true rfl)) dX4_branch_132 ⟨Nat.le_of_ble_eq_true rfl, Nat.le_of_ble_eq_true rfl⟩) hS hP hD hA [0, 1, 2] [] rfl rfl (by decide) (by decide) (fun r_ v_ H locs hw hP hD hS => ?_)
                  obtain ⟨rfl, rfl⟩ := hw
                  refine W.eq (g2 := F0 m 135 ls [.int (f_X4_go u (u.2.2.1 + (f_X4_immediateB u))).1]) rfl ?_
                  have hP : va_P (dC, dI) vwCl (Wm g0 g1 g2 cB cC (f_X4_go u (u.2.2.1 + (f_X4_immediateB u))).2) H := hP
                  have hD : va_D A (Wm g0 g1 g2 cB cC (f_X4_go u (u.2.2.1 + (f_X4_immediateB u))).2) := hD
                  have hF : f_X4_branch u p0 = ((f_X4_go u (u.2.2.1 + (f_X4_immediateB u))).1, (f_X4_go u (u.2.2.1 + (f_X4_immediateB u))).2) := by unfold f_X4_branch; rw [if_neg c1, if_neg c2, if_neg c3, if_neg c27, if_neg c28, if_neg c30, if_pos c32, if_pos c34]
                  exact W.iret (v := (f_X4_go u (u.2.2.1 + (f_X4_immediateB u))).1) hx hb hr (fun t ht hW => ⟨⟨(f_X4_go u (u.2.2.1 + (f_X4_immediateB u))).1, (f_X4_go u (u.2.2.1 + (f_X4_immediateB u))).2, rfl, ⟨(congrArg Prod.fst hF).symm, (congrArg Prod.snd hF).symm⟩, by rw [ht]; exact hP, va_K.moved hW.alike hK, hD⟩, hS.F ht⟩) hS.2.2 dX4_branch_135
        · have c27 := (lg_cmp_eq u.2.2.2.2.2.2.1 u.2.2.2.2.2.2.2.1).mp c27
          refine lv_iconst (v := (1 : Int32)) hx hb dX4_branch_29 (by decide) ?_
          refine lv_goto (tgt := 74) hx hb dX4_branch_30 (by decide) ?_
          refine lv_istore_n (lv' := [(2, .int (1 : Int32)), (0, .ref g0), (1, .int p0)]) hx hb dX4_branch_74 rfl hl (by decide) rfl (fun ls hl => ?_)
          refine lv_iload_n hx hb dX4_branch_75 rfl (lv_at hl 0 rfl) ?_
          refine lv_iload_n hx hb dX4_branch_76 rfl (lv_at hl 2 rfl) ?_
          refine lv_if_eq (tgt := 91) hx hb dX4_branch_77 (by decide) (fun c35 => ?_) (fun c35 => ?_)
          · refine lv_iconst (v := (1 : Int32)) hx hb dX4_branch_91 (by decide) ?_
            refine lv_goto (tgt := 96) hx hb dX4_branch_92 (by decide) ?_
            refine lv_icmp_ne (tgt := 103) hx hb dX4_branch_96 (by decide) (fun c36 => ?_) (fun c36 => ?_)
            · refine lv_iconst (v := (0 : Int32)) hx hb dX4_branch_103 (by decide) ?_
              refine lv_istore_n (lv' := [(3, .int (0 : Int32)), (2, .int (1 : Int32)), (0, .ref g0), (1, .int p0)]) hx hb dX4_branch_104 rfl hl (by decide) rfl (fun ls hl => ?_)
              refine lv_aload_n hx hb dX4_branch_105 rfl (lv_at hl 2 rfl) ?_
              refine lv_iload_n hx hb dX4_branch_106 rfl (lv_at hl 0 rfl) ?_
              refine lv_if_eq (tgt := 122) hx hb dX4_branch_107 (by decide) (fun _ => ?_) (fun c_ => absurd c_ (by decide))
              refine lv_aload_n hx hb dX4_branch_122 rfl (lv_at hl 2 rfl) ?_
              refine va_get (D := (dC, dI)) (ci := 1) (v := .long u.2.2.1) (C := RX4) (T := TX4) (N := 13) hx hb hts inX4 hown hK hP 0 rfl rfl 2 (by decide) (hts _ qw_281) (fun _ h9 => h9) rfl dX4_branch_123 ?_
              refine lv_aload_n hx hb dX4_branch_126 rfl (lv_at hl 2 rfl) ?_
              refine va_get (D := (dC, dI)) (ci := 1) (v := .int u.2.2.2.2.2.1) (C := RX4) (T := TX4) (N := 13) hx hb hts inX4 hown hK hP 0 rfl rfl 5 (by decide) (hts _ qw_284) (fun _ h9 => h9) rfl dX4_branch_127 ?_
              refine lv_i2l (v := u.2.2.2.2.2.1.toInt64) hx hb dX4_branch_130 rfl ?_
              refine lv_ladd hx hb dX4_branch_131 ?_
              refine wr_calli (wr := []) (va_runV (As := [.long (u.2.2.1 + u.2.2.2.2.2.1.toInt64)]) (rest := []) ⟨hx, hb, hml, hown, hts⟩ (mt_X4_go l dC dI g0 g1 g2 cB cC s.heap.size u (u.2.2.1 + u.2.2.2.2.2.1.toInt64)) (cwV 1 hts gX4_91_X4_go rfl rfl rfl (by decide +kernel) ⟨Nat.le_of_ble_eq_true rfl, Nat.le_of_ble_eq_true rfl⟩) (wr_V hK hP hD (ci := 1) (q0 := 0) rfl rfl rfl) rfl rfl hl.1 rfl (lv_room (Nat.le_of_ble_eq_true rfl)) dX4_branch_132 ⟨Nat.le_of_ble_eq_true rfl, Nat.le_of_ble_eq_true rfl⟩) hS hP hD hA [0, 1, 2] [] rfl rfl (by decide) (by decide) (fun r_ v_ H locs hw hP hD hS => ?_)
              obtain ⟨rfl, rfl⟩ := hw
              refine W.eq (g2 := F0 m 135 ls [.int (f_X4_go u (u.2.2.1 + u.2.2.2.2.2.1.toInt64)).1]) rfl ?_
              have hP : va_P (dC, dI) vwCl (Wm g0 g1 g2 cB cC (f_X4_go u (u.2.2.1 + u.2.2.2.2.2.1.toInt64)).2) H := hP
              have hD : va_D A (Wm g0 g1 g2 cB cC (f_X4_go u (u.2.2.1 + u.2.2.2.2.2.1.toInt64)).2) := hD
              have hF : f_X4_branch u p0 = ((f_X4_go u (u.2.2.1 + u.2.2.2.2.2.1.toInt64)).1, (f_X4_go u (u.2.2.1 + u.2.2.2.2.2.1.toInt64)).2) := by unfold f_X4_branch; rw [if_neg c1, if_neg c2, if_neg c3, if_pos c27, if_pos c35, if_neg c36]
              exact W.iret (v := (f_X4_go u (u.2.2.1 + u.2.2.2.2.2.1.toInt64)).1) hx hb hr (fun t ht hW => ⟨⟨(f_X4_go u (u.2.2.1 + u.2.2.2.2.2.1.toInt64)).1, (f_X4_go u (u.2.2.1 + u.2.2.2.2.2.1.toInt64)).2, rfl, ⟨(congrArg Prod.fst hF).symm, (congrArg Prod.snd hF).symm⟩, by rw [ht]; exact hP, va_K.moved hW.alike hK, hD⟩, hS.F ht⟩) hS.2.2 dX4_branch_135
            · refine lv_iconst (v := (1 : Int32)) hx hb dX4_branch_99 (by decide) ?_
              refine lv_goto (tgt := 104) hx hb dX4_branch_100 (by decide) ?_
              refine lv_istore_n (lv' := [(3, .int (1 : Int32)), (2, .int (1 : Int32)), (0, .ref g0), (1, .int p0)]) hx hb dX4_branch_104 rfl hl (by decide) rfl (fun ls hl => ?_)
              refine lv_aload_n hx hb dX4_branch_105 rfl (lv_at hl 2 rfl) ?_
              refine lv_iload_n hx hb dX4_branch_106 rfl (lv_at hl 0 rfl) ?_
              refine lv_if_eq (tgt := 122) hx hb dX4_branch_107 (by decide) (fun c_ => absurd c_ (by decide)) (fun _ => ?_)
              refine lv_aload_n hx hb dX4_branch_110 rfl (lv_at hl 2 rfl) ?_
              refine va_get (D := (dC, dI)) (ci := 1) (v := .long u.2.2.1) (C := RX4) (T := TX4) (N := 13) hx hb hts inX4 hown hK hP 0 rfl rfl 2 (by decide) (hts _ qw_281) (fun _ h9 => h9) rfl dX4_branch_111 ?_
              refine lv_aload_n hx hb dX4_branch_114 rfl (lv_at hl 2 rfl) ?_
              refine W.callV (W.runV (As := []) (rest := [.long u.2.2.1, .ref g0]) ⟨hx, hb, hml, hown, hts⟩ (mt_X4_immediateB l dC dI g0 g1 g2 cB cC u ) (cwV 0 hts gX4_87_X4_immediateB rfl rfl rfl (by decide +kernel) ⟨Nat.le_of_ble_eq_true rfl, Nat.le_of_ble_eq_true rfl⟩) (rd_V hK hP (ci := 1) (q0 := 0) rfl rfl rfl) rfl rfl hl.1 rfl (lv_room (Nat.le_of_ble_eq_true rfl)) dX4_branch_115 ⟨Nat.le_of_ble_eq_true rfl, Nat.le_of_ble_eq_true rfl⟩) ?_
              refine W.eq (g2 := F0 m 118 ls [.long (f_X4_immediateB u), .long u.2.2.1, .ref g0]) rfl ?_
              refine lv_ladd hx hb dX4_branch_118 ?_
              refine lv_goto (tgt := 132) hx hb dX4_branch_119 (by decide) ?_
              refine wr_calli (wr := []) (va_runV (As := [.long (u.2.2.1 + (f_X4_immediateB u))]) (rest := []) ⟨hx, hb, hml, hown, hts⟩ (mt_X4_go l dC dI g0 g1 g2 cB cC s.heap.size u (u.2.2.1 + (f_X4_immediateB u))) (cwV 1 hts gX4_91_X4_go rfl rfl rfl (by decide +kernel) ⟨Nat.le_of_ble_eq_true rfl, Nat.le_of_ble_eq_true rfl⟩) (wr_V hK hP hD (ci := 1) (q0 := 0) rfl rfl rfl) rfl rfl hl.1 rfl (lv_room (Nat.le_of_ble_eq_true rfl)) dX4_branch_132 ⟨Nat.le_of_ble_eq_true rfl, Nat.le_of_ble_eq_true rfl⟩) hS hP hD hA [0, 1, 2] [] rfl rfl (by decide) (by decide) (fun r_ v_ H locs hw hP hD hS => ?_)
              obtain ⟨rfl, rfl⟩ := hw
              refine W.eq (g2 := F0 m 135 ls [.int (f_X4_go u (u.2.2.1 + (f_X4_immediateB u))).1]) rfl ?_
              have hP : va_P (dC, dI) vwCl (Wm g0 g1 g2 cB cC (f_X4_go u (u.2.2.1 + (f_X4_immediateB u))).2) H := hP
              have hD : va_D A (Wm g0 g1 g2 cB cC (f_X4_go u (u.2.2.1 + (f_X4_immediateB u))).2) := hD
              have hF : f_X4_branch u p0 = ((f_X4_go u (u.2.2.1 + (f_X4_immediateB u))).1, (f_X4_go u (u.2.2.1 + (f_X4_immediateB u))).2) := by unfold f_X4_branch; rw [if_neg c1, if_neg c2, if_neg c3, if_pos c27, if_pos c35, if_pos c36]
              exact W.iret (v := (f_X4_go u (u.2.2.1 + (f_X4_immediateB u))).1) hx hb hr (fun t ht hW => ⟨⟨(f_X4_go u (u.2.2.1 + (f_X4_immediateB u))).1, (f_X4_go u (u.2.2.1 + (f_X4_immediateB u))).2, rfl, ⟨(congrArg Prod.fst hF).symm, (congrArg Prod.snd hF).symm⟩, by rw [ht]; exact hP, va_K.moved hW.alike hK, hD⟩, hS.F ht⟩) hS.2.2 dX4_branch_135
          · refine lv_iload_n hx hb dX4_branch_80 rfl (lv_at hl 2 rfl) ?_
            refine lv_iconst (v := (4 : Int32)) hx hb dX4_branch_81 (by decide) ?_
            refine lv_icmp_eq (tgt := 91) hx hb dX4_branch_82 (by decide) (fun c37 => ?_) (fun c37 => ?_)
            · refine lv_iconst (v := (1 : Int32)) hx hb dX4_branch_91 (by decide) ?_
              refine lv_goto (tgt := 96) hx hb dX4_branch_92 (by decide) ?_
              refine lv_icmp_ne (tgt := 103) hx hb dX4_branch_96 (by decide) (fun c38 => ?_) (fun c38 => ?_)
              · refine lv_iconst (v := (0 : Int32)) hx hb dX4_branch_103 (by decide) ?_
                refine lv_istore_n (lv' := [(3, .int (0 : Int32)), (2, .int (1 : Int32)), (0, .ref g0), (1, .int p0)]) hx hb dX4_branch_104 rfl hl (by decide) rfl (fun ls hl => ?_)
                refine lv_aload_n hx hb dX4_branch_105 rfl (lv_at hl 2 rfl) ?_
                refine lv_iload_n hx hb dX4_branch_106 rfl (lv_at hl 0 rfl) ?_
                refine lv_if_eq (tgt := 122) hx hb dX4_branch_107 (by decide) (fun _ => ?_) (fun c_ => absurd c_ (by decide))
                refine lv_aload_n hx hb dX4_branch_122 rfl (lv_at hl 2 rfl) ?_
                refine va_get (D := (dC, dI)) (ci := 1) (v := .long u.2.2.1) (C := RX4) (T := TX4) (N := 13) hx hb hts inX4 hown hK hP 0 rfl rfl 2 (by decide) (hts _ qw_281) (fun _ h9 => h9) rfl dX4_branch_123 ?_
                refine lv_aload_n hx hb dX4_branch_126 rfl (lv_at hl 2 rfl) ?_
                refine va_get (D := (dC, dI)) (ci := 1) (v := .int u.2.2.2.2.2.1) (C := RX4) (T := TX4) (N := 13) hx hb hts inX4 hown hK hP 0 rfl rfl 5 (by decide) (hts _ qw_284) (fun _ h9 => h9) rfl dX4_branch_127 ?_
                refine lv_i2l (v := u.2.2.2.2.2.1.toInt64) hx hb dX4_branch_130 rfl ?_
                refine lv_ladd hx hb dX4_branch_131 ?_
                refine wr_calli (wr := []) (va_runV (As := [.long (u.2.2.1 + u.2.2.2.2.2.1.toInt64)]) (rest := []) ⟨hx, hb, hml, hown, hts⟩ (mt_X4_go l dC dI g0 g1 g2 cB cC s.heap.size u (u.2.2.1 + u.2.2.2.2.2.1.toInt64)) (cwV 1 hts gX4_91_X4_go rfl rfl rfl (by decide +kernel) ⟨Nat.le_of_ble_eq_true rfl, Nat.le_of_ble_eq_true rfl⟩) (wr_V hK hP hD (ci := 1) (q0 := 0) rfl rfl rfl) rfl rfl hl.1 rfl (lv_room (Nat.le_of_ble_eq_true rfl)) dX4_branch_132 ⟨Nat.le_of_ble_eq_true rfl, Nat.le_of_ble_eq_true rfl⟩) hS hP hD hA [0, 1, 2] [] rfl rfl (by decide) (by decide) (fun r_ v_ H locs hw hP hD hS => ?_)
                obtain ⟨rfl, rfl⟩ := hw
                refine W.eq (g2 := F0 m 135 ls [.int (f_X4_go u (u.2.2.1 + u.2.2.2.2.2.1.toInt64)).1]) rfl ?_
                have hP : va_P (dC, dI) vwCl (Wm g0 g1 g2 cB cC (f_X4_go u (u.2.2.1 + u.2.2.2.2.2.1.toInt64)).2) H := hP
                have hD : va_D A (Wm g0 g1 g2 cB cC (f_X4_go u (u.2.2.1 + u.2.2.2.2.2.1.toInt64)).2) := hD
                have hF : f_X4_branch u p0 = ((f_X4_go u (u.2.2.1 + u.2.2.2.2.2.1.toInt64)).1, (f_X4_go u (u.2.2.1 + u.2.2.2.2.2.1.toInt64)).2) := by unfold f_X4_branch; rw [if_neg c1, if_neg c2, if_neg c3, if_pos c27, if_neg c35, if_pos c37, if_neg c38]
                exact W.iret (v := (f_X4_go u (u.2.2.1 + u.2.2.2.2.2.1.toInt64)).1) hx hb hr (fun t ht hW => ⟨⟨(f_X4_go u (u.2.2.1 + u.2.2.2.2.2.1.toInt64)).1, (f_X4_go u (u.2.2.1 + u.2.2.2.2.2.1.toInt64)).2, rfl, ⟨(congrArg Prod.fst hF).symm, (congrArg Prod.snd hF).symm⟩, by rw [ht]; exact hP, va_K.moved hW.alike hK, hD⟩, hS.F ht⟩) hS.2.2 dX4_branch_135
              · refine lv_iconst (v := (1 : Int32)) hx hb dX4_branch_99 (by decide) ?_
                refine lv_goto (tgt := 104) hx hb dX4_branch_100 (by decide) ?_
                refine lv_istore_n (lv' := [(3, .int (1 : Int32)), (2, .int (1 : Int32)), (0, .ref g0), (1, .int p0)]) hx hb dX4_branch_104 rfl hl (by decide) rfl (fun ls hl => ?_)
                refine lv_aload_n hx hb dX4_branch_105 rfl (lv_at hl 2 rfl) ?_
                refine lv_iload_n hx hb dX4_branch_106 rfl (lv_at hl 0 rfl) ?_
                refine lv_if_eq (tgt := 122) hx hb dX4_branch_107 (by decide) (fun c_ => absurd c_ (by decide)) (fun _ => ?_)
                refine lv_aload_n hx hb dX4_branch_110 rfl (lv_at hl 2 rfl) ?_
                refine va_get (D := (dC, dI)) (ci := 1) (v := .long u.2.2.1) (C := RX4) (T := TX4) (N := 13) hx hb hts inX4 hown hK hP 0 rfl rfl 2 (by decide) (hts _ qw_281) (fun _ h9 => h9) rfl dX4_branch_111 ?_
                refine lv_aload_n hx hb dX4_branch_114 rfl (lv_at hl 2 rfl) ?_
                refine W.callV (W.runV (As := []) (rest := [.long u.2.2.1, .ref g0]) ⟨hx, hb, hml, hown, hts⟩ (mt_X4_immediateB l dC dI g0 g1 g2 cB cC u ) (cwV 0 hts gX4_87_X4_immediateB rfl rfl rfl (by decide +kernel) ⟨Nat.le_of_ble_eq_true rfl, Nat.le_of_ble_eq_true rfl⟩) (rd_V hK hP (ci := 1) (q0 := 0) rfl rfl rfl) rfl rfl hl.1 rfl (lv_room (Nat.le_of_ble_eq_true rfl)) dX4_branch_115 ⟨Nat.le_of_ble_eq_true rfl, Nat.le_of_ble_eq_true rfl⟩) ?_
                refine W.eq (g2 := F0 m 118 ls [.long (f_X4_immediateB u), .long u.2.2.1, .ref g0]) rfl ?_
                refine lv_ladd hx hb dX4_branch_118 ?_
                refine lv_goto (tgt := 132) hx hb dX4_branch_119 (by decide) ?_
                refine wr_calli (wr := []) (va_runV (As := [.long (u.2.2.1 + (f_X4_immediateB u))]) (rest := []) ⟨hx, hb, hml, hown, hts⟩ (mt_X4_go l dC dI g0 g1 g2 cB cC s.heap.size u (u.2.2.1 + (f_X4_immediateB u))) (cwV 1 hts gX4_91_X4_go rfl rfl rfl (by decide +kernel) ⟨Nat.le_of_ble_eq_true rfl, Nat.le_of_ble_eq_true rfl⟩) (wr_V hK hP hD (ci := 1) (q0 := 0) rfl rfl rfl) rfl rfl hl.1 rfl (lv_room (Nat.le_of_ble_eq_true rfl)) dX4_branch_132 ⟨Nat.le_of_ble_eq_true rfl, Nat.le_of_ble_eq_true rfl⟩) hS hP hD hA [0, 1, 2] [] rfl rfl (by decide) (by decide) (fun r_ v_ H locs hw hP hD hS => ?_)
                obtain ⟨rfl, rfl⟩ := hw
                refine W.eq (g2 := F0 m 135 ls [.int (f_X4_go u (u.2.2.1 + (f_X4_immediateB u))).1]) rfl ?_
                have hP : va_P (dC, dI) vwCl (Wm g0 g1 g2 cB cC (f_X4_go u (u.2.2.1 + (f_X4_immediateB u))).2) H := hP
                have hD : va_D A (Wm g0 g1 g2 cB cC (f_X4_go u (u.2.2.1 + (f_X4_immediateB u))).2) := hD
                have hF : f_X4_branch u p0 = ((f_X4_go u (u.2.2.1 + (f_X4_immediateB u))).1, (f_X4_go u (u.2.2.1 + (f_X4_immediateB u))).2) := by unfold f_X4_branch; rw [if_neg c1, if_neg c2, if_neg c3, if_pos c27, if_neg c35, if_pos c37, if_pos c38]
                exact W.iret (v := (f_X4_go u (u.2.2.1 + (f_X4_immediateB u))).1) hx hb hr (fun t ht hW => ⟨⟨(f_X4_go u (u.2.2.1 + (f_X4_immediateB u))).1, (f_X4_go u (u.2.2.1 + (f_X4_immediateB u))).2, rfl, ⟨(congrArg Prod.fst hF).symm, (congrArg Prod.snd hF).symm⟩, by rw [ht]; exact hP, va_K.moved hW.alike hK, hD⟩, hS.F ht⟩) hS.2.2 dX4_branch_135
            · refine lv_iload_n hx hb dX4_branch_85 rfl (lv_at hl 2 rfl) ?_
              refine lv_bipush (v := (6 : Int32)) hx hb dX4_branch_86 (by decide) ?_
              refine lv_icmp_ne (tgt := 95) hx hb dX4_branch_88 (by decide) (fun c39 => ?_) (fun c39 => ?_)
              · refine lv_iconst (v := (0 : Int32)) hx hb dX4_branch_95 (by decide) ?_
                refine lv_icmp_ne (tgt := 103) hx hb dX4_branch_96 (by decide) (fun c40 => ?_) (fun c40 => ?_)
                · refine lv_iconst (v := (0 : Int32)) hx hb dX4_branch_103 (by decide) ?_
                  refine lv_istore_n (lv' := [(3, .int (0 : Int32)), (2, .int (1 : Int32)), (0, .ref g0), (1, .int p0)]) hx hb dX4_branch_104 rfl hl (by decide) rfl (fun ls hl => ?_)
                  refine lv_aload_n hx hb dX4_branch_105 rfl (lv_at hl 2 rfl) ?_
                  refine lv_iload_n hx hb dX4_branch_106 rfl (lv_at hl 0 rfl) ?_
                  refine lv_if_eq (tgt := 122) hx hb dX4_branch_107 (by decide) (fun _ => ?_) (fun c_ => absurd c_ (by decide))
                  refine lv_aload_n hx hb dX4_branch_122 rfl (lv_at hl 2 rfl) ?_
                  refine va_get (D := (dC, dI)) (ci := 1) (v := .long u.2.2.1) (C := RX4) (T := TX4) (N := 13) hx hb hts inX4 hown hK hP 0 rfl rfl 2 (by decide) (hts _ qw_281) (fun _ h9 => h9) rfl dX4_branch_123 ?_
                  refine lv_aload_n hx hb dX4_branch_126 rfl (lv_at hl 2 rfl) ?_
                  refine va_get (D := (dC, dI)) (ci := 1) (v := .int u.2.2.2.2.2.1) (C := RX4) (T := TX4) (N := 13) hx hb hts inX4 hown hK hP 0 rfl rfl 5 (by decide) (hts _ qw_284) (fun _ h9 => h9) rfl dX4_branch_127 ?_
                  refine lv_i2l (v := u.2.2.2.2.2.1.toInt64) hx hb dX4_branch_130 rfl ?_
                  refine lv_ladd hx hb dX4_branch_131 ?_
                  refine wr_calli (wr := []) (va_runV (As := [.long (u.2.2.1 + u.2.2.2.2.2.1.toInt64)]) (rest := []) ⟨hx, hb, hml, hown, hts⟩ (mt_X4_go l dC dI g0 g1 g2 cB cC s.heap.size u (u.2.2.1 + u.2.2.2.2.2.1.toInt64)) (cwV 1 hts gX4_91_X4_go rfl rfl rfl (by decide +kernel) ⟨Nat.le_of_ble_eq_true rfl, Nat.le_of_ble_eq_true rfl⟩) (wr_V hK hP hD (ci := 1) (q0 := 0) rfl rfl rfl) rfl rfl hl.1 rfl (lv_room (Nat.le_of_ble_eq_true rfl)) dX4_branch_132 ⟨Nat.le_of_ble_eq_true rfl, Nat.le_of_ble_eq_true rfl⟩) hS hP hD hA [0, 1, 2] [] rfl rfl (by decide) (by decide) (fun r_ v_ H locs hw hP hD hS => ?_)
                  obtain ⟨rfl, rfl⟩ := hw
                  refine W.eq (g2 := F0 m 135 ls [.int (f_X4_go u (u.2.2.1 + u.2.2.2.2.2.1.toInt64)).1]) rfl ?_
                  have hP : va_P (dC, dI) vwCl (Wm g0 g1 g2 cB cC (f_X4_go u (u.2.2.1 + u.2.2.2.2.2.1.toInt64)).2) H := hP
                  have hD : va_D A (Wm g0 g1 g2 cB cC (f_X4_go u (u.2.2.1 + u.2.2.2.2.2.1.toInt64)).2) := hD
                  have hF : f_X4_branch u p0 = ((f_X4_go u (u.2.2.1 + u.2.2.2.2.2.1.toInt64)).1, (f_X4_go u (u.2.2.1 + u.2.2.2.2.2.1.toInt64)).2) := by unfold f_X4_branch; rw [if_neg c1, if_neg c2, if_neg c3, if_pos c27, if_neg c35, if_neg c37, if_neg c39, if_neg c40]
                  exact W.iret (v := (f_X4_go u (u.2.2.1 + u.2.2.2.2.2.1.toInt64)).1) hx hb hr (fun t ht hW => ⟨⟨(f_X4_go u (u.2.2.1 + u.2.2.2.2.2.1.toInt64)).1, (f_X4_go u (u.2.2.1 + u.2.2.2.2.2.1.toInt64)).2, rfl, ⟨(congrArg Prod.fst hF).symm, (congrArg Prod.snd hF).symm⟩, by rw [ht]; exact hP, va_K.moved hW.alike hK, hD⟩, hS.F ht⟩) hS.2.2 dX4_branch_135
                · refine lv_iconst (v := (1 : Int32)) hx hb dX4_branch_99 (by decide) ?_
                  refine lv_goto (tgt := 104) hx hb dX4_branch_100 (by decide) ?_
                  refine lv_istore_n (lv' := [(3, .int (1 : Int32)), (2, .int (1 : Int32)), (0, .ref g0), (1, .int p0)]) hx hb dX4_branch_104 rfl hl (by decide) rfl (fun ls hl => ?_)
                  refine lv_aload_n hx hb dX4_branch_105 rfl (lv_at hl 2 rfl) ?_
                  refine lv_iload_n hx hb dX4_branch_106 rfl (lv_at hl 0 rfl) ?_
                  refine lv_if_eq (tgt := 122) hx hb dX4_branch_107 (by decide) (fun c_ => absurd c_ (by decide)) (fun _ => ?_)
                  refine lv_aload_n hx hb dX4_branch_110 rfl (lv_at hl 2 rfl) ?_
                  refine va_get (D := (dC, dI)) (ci := 1) (v := .long u.2.2.1) (C := RX4) (T := TX4) (N := 13) hx hb hts inX4 hown hK hP 0 rfl rfl 2 (by decide) (hts _ qw_281) (fun _ h9 => h9) rfl dX4_branch_111 ?_
                  refine lv_aload_n hx hb dX4_branch_114 rfl (lv_at hl 2 rfl) ?_
                  refine W.callV (W.runV (As := []) (rest := [.long u.2.2.1, .ref g0]) ⟨hx, hb, hml, hown, hts⟩ (mt_X4_immediateB l dC dI g0 g1 g2 cB cC u ) (cwV 0 hts gX4_87_X4_immediateB rfl rfl rfl (by decide +kernel) ⟨Nat.le_of_ble_eq_true rfl, Nat.le_of_ble_eq_true rfl⟩) (rd_V hK hP (ci := 1) (q0 := 0) rfl rfl rfl) rfl rfl hl.1 rfl (lv_room (Nat.le_of_ble_eq_true rfl)) dX4_branch_115 ⟨Nat.le_of_ble_eq_true rfl, Nat.le_of_ble_eq_true rfl⟩) ?_
                  refine W.eq (g2 := F0 m 118 ls [.long (f_X4_immediateB u), .long u.2.2.1, .ref g0]) rfl ?_
                  refine lv_ladd hx hb dX4_branch_118 ?_
                  refine lv_goto (tgt := 132) hx hb dX4_branch_119 (by decide) ?_
                  refine wr_calli (wr := []) (va_runV (As := [.long (u.2.2.1 + (f_X4_immediateB u))]) (rest := []) ⟨hx, hb, hml, hown, hts⟩ (mt_X4_go l dC dI g0 g1 g2 cB cC s.heap.size u (u.2.2.1 + (f_X4_immediateB u))) (cwV 1 hts gX4_91_X4_go rfl rfl rfl (by decide +kernel) ⟨Nat.le_of_ble_eq_true rfl, Nat.le_of_ble_eq_true rfl⟩) (wr_V hK hP hD (ci := 1) (q0 := 0) rfl rfl rfl) rfl rfl hl.1 rfl (lv_room (Nat.le_of_ble_eq_true rfl)) dX4_branch_132 ⟨Nat.le_of_ble_eq_true rfl, Nat.le_of_ble_eq_true rfl⟩) hS hP hD hA [0, 1, 2] [] rfl rfl (by decide) (by decide) (fun r_ v_ H locs hw hP hD hS => ?_)
                  obtain ⟨rfl, rfl⟩ := hw
                  refine W.eq (g2 := F0 m 135 ls [.int (f_X4_go u (u.2.2.1 + (f_X4_immediateB u))).1]) rfl ?_
                  have hP : va_P (dC, dI) vwCl (Wm g0 g1 g2 cB cC (f_X4_go u (u.2.2.1 + (f_X4_immediateB u))).2) H := hP
                  have hD : va_D A (Wm g0 g1 g2 cB cC (f_X4_go u (u.2.2.1 + (f_X4_immediateB u))).2) := hD
                  have hF : f_X4_branch u p0 = ((f_X4_go u (u.2.2.1 + (f_X4_immediateB u))).1, (f_X4_go u (u.2.2.1 + (f_X4_immediateB u))).2) := by unfold f_X4_branch; rw [if_neg c1, if_neg c2, if_neg c3, if_pos c27, if_neg c35, if_neg c37, if_neg c39, if_pos c40]
                  exact W.iret (v := (f_X4_go u (u.2.2.1 + (f_X4_immediateB u))).1) hx hb hr (fun t ht hW => ⟨⟨(f_X4_go u (u.2.2.1 + (f_X4_immediateB u))).1, (f_X4_go u (u.2.2.1 + (f_X4_immediateB u))).2, rfl, ⟨(congrArg Prod.fst hF).symm, (congrArg Prod.snd hF).symm⟩, by rw [ht]; exact hP, va_K.moved hW.alike hK, hD⟩, hS.F ht⟩) hS.2.2 dX4_branch_135
              · refine lv_iconst (v := (1 : Int32)) hx hb dX4_branch_91 (by decide) ?_
                refine lv_goto (tgt := 96) hx hb dX4_branch_92 (by decide) ?_
                refine lv_icmp_ne (tgt := 103) hx hb dX4_branch_96 (by decide) (fun c41 => ?_) (fun c41 => ?_)
                · refine lv_iconst (v := (0 : Int32)) hx hb dX4_branch_103 (by decide) ?_
                  refine lv_istore_n (lv' := [(3, .int (0 : Int32)), (2, .int (1 : Int32)), (0, .ref g0), (1, .int p0)]) hx hb dX4_branch_104 rfl hl (by decide) rfl (fun ls hl => ?_)
                  refine lv_aload_n hx hb dX4_branch_105 rfl (lv_at hl 2 rfl) ?_
                  refine lv_iload_n hx hb dX4_branch_106 rfl (lv_at hl 0 rfl) ?_
                  refine lv_if_eq (tgt := 122) hx hb dX4_branch_107 (by decide) (fun _ => ?_) (fun c_ => absurd c_ (by decide))
                  refine lv_aload_n hx hb dX4_branch_122 rfl (lv_at hl 2 rfl) ?_
                  refine va_get (D := (dC, dI)) (ci := 1) (v := .long u.2.2.1) (C := RX4) (T := TX4) (N := 13) hx hb hts inX4 hown hK hP 0 rfl rfl 2 (by decide) (hts _ qw_281) (fun _ h9 => h9) rfl dX4_branch_123 ?_
                  refine lv_aload_n hx hb dX4_branch_126 rfl (lv_at hl 2 rfl) ?_
                  refine va_get (D := (dC, dI)) (ci := 1) (v := .int u.2.2.2.2.2.1) (C := RX4) (T := TX4) (N := 13) hx hb hts inX4 hown hK hP 0 rfl rfl 5 (by decide) (hts _ qw_284) (fun _ h9 => h9) rfl dX4_branch_127 ?_
                  refine lv_i2l (v := u.2.2.2.2.2.1.toInt64) hx hb dX4_branch_130 rfl ?_
                  refine lv_ladd hx hb dX4_branch_131 ?_
                  refine wr_calli (wr := []) (va_runV (As := [.long (u.2.2.1 + u.2.2.2.2.2.1.toInt64)]) (rest := []) ⟨hx, hb, hml, hown, hts⟩ (mt_X4_go l dC dI g0 g1 g2 cB cC s.heap.size u (u.2.2.1 + u.2.2.2.2.2.1.toInt64)) (cwV 1 hts gX4_91_X4_go rfl rfl rfl (by decide +kernel) ⟨Nat.le_of_ble_eq_true rfl, Nat.le_of_ble_eq_true rfl⟩) (wr_V hK hP hD (ci := 1) (q0 := 0) rfl rfl rfl) rfl rfl hl.1 rfl (lv_room (Nat.le_of_ble_eq_true rfl)) dX4_branch_132 ⟨Nat.le_of_ble_eq_true rfl, Nat.le_of_ble_eq_true rfl⟩) hS hP hD hA [0, 1, 2] [] rfl rfl (by decide) (by decide) (fun r_ v_ H locs hw hP hD hS => ?_)
                  obtain ⟨rfl, rfl⟩ := hw
                  refine W.eq (g2 := F0 m 135 ls [.int (f_X4_go u (u.2.2.1 + u.2.2.2.2.2.1.toInt64)).1]) rfl ?_
                  have hP : va_P (dC, dI) vwCl (Wm g0 g1 g2 cB cC (f_X4_go u (u.2.2.1 + u.2.2.2.2.2.1.toInt64)).2) H := hP
                  have hD : va_D A (Wm g0 g1 g2 cB cC (f_X4_go u (u.2.2.1 + u.2.2.2.2.2.1.toInt64)).2) := hD
                  have hF : f_X4_branch u p0 = ((f_X4_go u (u.2.2.1 + u.2.2.2.2.2.1.toInt64)).1, (f_X4_go u (u.2.2.1 + u.2.2.2.2.2.1.toInt64)).2) := by unfold f_X4_branch; rw [if_neg c1, if_neg c2, if_neg c3, if_pos c27, if_neg c35, if_neg c37, if_pos c39, if_neg c41]
                  exact W.iret (v := (f_X4_go u (u.2.2.1 + u.2.2.2.2.2.1.toInt64)).1) hx hb hr (fun t ht hW => ⟨⟨(f_X4_go u (u.2.2.1 + u.2.2.2.2.2.1.toInt64)).1, (f_X4_go u (u.2.2.1 + u.2.2.2.2.2.1.toInt64)).2, rfl, ⟨(congrArg Prod.fst hF).symm, (congrArg Prod.snd hF).symm⟩, by rw [ht]; exact hP, va_K.moved hW.alike hK, hD⟩, hS.F ht⟩) hS.2.2 dX4_branch_135
                · refine lv_iconst (v := (1 : Int32)) hx hb dX4_branch_99 (by decide) ?_
                  refine lv_goto (tgt := 104) hx hb dX4_branch_100 (by decide) ?_
                  refine lv_istore_n (lv' := [(3, .int (1 : Int32)), (2, .int (1 : Int32)), (0, .ref g0), (1, .int p0)]) hx hb dX4_branch_104 rfl hl (by decide) rfl (fun ls hl => ?_)
                  refine lv_aload_n hx hb dX4_branch_105 rfl (lv_at hl 2 rfl) ?_
                  refine lv_iload_n hx hb dX4_branch_106 rfl (lv_at hl 0 rfl) ?_
                  refine lv_if_eq (tgt := 122) hx hb dX4_branch_107 (by decide) (fun c_ => absurd c_ (by decide)) (fun _ => ?_)
                  refine lv_aload_n hx hb dX4_branch_110 rfl (lv_at hl 2 rfl) ?_
                  refine va_get (D := (dC, dI)) (ci := 1) (v := .long u.2.2.1) (C := RX4) (T := TX4) (N := 13) hx hb hts inX4 hown hK hP 0 rfl rfl 2 (by decide) (hts _ qw_281) (fun _ h9 => h9) rfl dX4_branch_111 ?_
                  refine lv_aload_n hx hb dX4_branch_114 rfl (lv_at hl 2 rfl) ?_
                  refine W.callV (W.runV (As := []) (rest := [.long u.2.2.1, .ref g0]) ⟨hx, hb, hml, hown, hts⟩ (mt_X4_immediateB l dC dI g0 g1 g2 cB cC u ) (cwV 0 hts gX4_87_X4_immediateB rfl rfl rfl (by decide +kernel) ⟨Nat.le_of_ble_eq_true rfl, Nat.le_of_ble_eq_true rfl⟩) (rd_V hK hP (ci := 1) (q0 := 0) rfl rfl rfl) rfl rfl hl.1 rfl (lv_room (Nat.le_of_ble_eq_true rfl)) dX4_branch_115 ⟨Nat.le_of_ble_eq_true rfl, Nat.le_of_ble_eq_true rfl⟩) ?_
                  refine W.eq (g2 := F0 m 118 ls [.long (f_X4_immediateB u), .long u.2.2.1, .ref g0]) rfl ?_
                  refine lv_ladd hx hb dX4_branch_118 ?_
                  refine lv_goto (tgt := 132) hx hb dX4_branch_119 (by decide) ?_
                  refine wr_calli (wr := []) (va_runV (As := [.long (u.2.2.1 + (f_X4_immediateB u))]) (rest := []) ⟨hx, hb, hml, hown, hts⟩ (mt_X4_go l dC dI g0 g1 g2 cB cC s.heap.size u (u.2.2.1 + (f_X4_immediateB u))) (cwV 1 hts gX4_91_X4_go rfl rfl rfl (by decide +kernel) ⟨Nat.le_of_ble_eq_true rfl, Nat.le_of_ble_eq_true rfl⟩) (wr_V hK hP hD (ci := 1) (q0 := 0) rfl rfl rfl) rfl rfl hl.1 rfl (lv_room (Nat.le_of_ble_eq_true rfl)) dX4_branch_132 ⟨Nat.le_of_ble_eq_true rfl, Nat.le_of_ble_eq_true rfl⟩) hS hP hD hA [0, 1, 2] [] rfl rfl (by decide) (by decide) (fun r_ v_ H locs hw hP hD hS => ?_)
                  obtain ⟨rfl, rfl⟩ := hw
                  refine W.eq (g2 := F0 m 135 ls [.int (f_X4_go u (u.2.2.1 + (f_X4_immediateB u))).1]) rfl ?_
                  have hP : va_P (dC, dI) vwCl (Wm g0 g1 g2 cB cC (f_X4_go u (u.2.2.1 + (f_X4_immediateB u))).2) H := hP
                  have hD : va_D A (Wm g0 g1 g2 cB cC (f_X4_go u (u.2.2.1 + (f_X4_immediateB u))).2) := hD
                  have hF : f_X4_branch u p0 = ((f_X4_go u (u.2.2.1 + (f_X4_immediateB u))).1, (f_X4_go u (u.2.2.1 + (f_X4_immediateB u))).2) := by unfold f_X4_branch; rw [if_neg c1, if_neg c2, if_neg c3, if_pos c27, if_neg c35, if_neg c37, if_pos c39, if_pos c41]
                  exact W.iret (v := (f_X4_go u (u.2.2.1 + (f_X4_immediateB u))).1) hx hb hr (fun t ht hW => ⟨⟨(f_X4_go u (u.2.2.1 + (f_X4_immediateB u))).1, (f_X4_go u (u.2.2.1 + (f_X4_immediateB u))).2, rfl, ⟨(congrArg Prod.fst hF).symm, (congrArg Prod.snd hF).symm⟩, by rw [ht]; exact hP, va_K.moved hW.alike hK, hD⟩, hS.F ht⟩) hS.2.2 dX4_branch_135
    · refine lv_iconst (v := (-1 : Int32)) hx hb dX4_branch_10 (by decide) ?_
      have hF : f_X4_branch u p0 = ((-1 : Int32), u) := by unfold f_X4_branch; rw [if_neg c1, if_pos c2]
      exact W.iret (v := (-1 : Int32)) hx hb hr (fun t ht hW => ⟨⟨(-1 : Int32), u, rfl, ⟨(congrArg Prod.fst hF).symm, (congrArg Prod.snd hF).symm⟩, by rw [ht]; exact hP, va_K.moved hW.alike hK, hD⟩, hS.F ht⟩) hS.2.2 dX4_branch_11
