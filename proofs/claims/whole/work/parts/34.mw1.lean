noncomputable def f_X4_put (u : SmT) (p0 : Int32) (p1 : Int64) : SmT :=
  if p0 ≤ 0 then
    u
  else
    (sm1 u (vp_updL u.2.1 p0.toNatClampNeg p1))
set_option maxHeartbeats 4000000 in
set_option maxRecDepth 100000 in
theorem mt_X4_put (l : Launch) (dC : Nat → ClassId) (dI : Nat → Nat → Nat) (g0 g1 g2 : Nat) (cB cC : ClassId) (sz : Nat) (u : SmT) (p0 : Int32) (p1 : Int64) (hd : p0 ≤ (31 : Int32)) : Met l yX4_put wsX4_put ({ frames := 0, cells := 0, slots := 0, locals := 0 }) (wr_P [.ref g0, .int p0, .long p1] (dC, dI) vwCl (Wm g0 g1 g2 cB cC u) [(cB, .long), (cC, .long)] sz) (va_Qv (fun v => v = f_X4_put u p0 p1) (wr_B (dC, dI) vwCl [(cB, .long), (cC, .long)] (va_A (Wm g0 g1 g2 cB cC u) sz) (Wm g0 g1 g2 cB cC)) (va_A (Wm g0 g1 g2 cB cC u) sz)) 0 0 (va_A (Wm g0 g1 g2 cB cC u) sz) := by
  refine Met.ofW (cc := cX4_put) (maxL := 4) (ret := none) (by decide) rfl ?_
  intro p e s m args below meth c s₁ B hml hv
  obtain ⟨rfl, hsz, hP, hK, hD0⟩ := hv
  have hx := B.exec
  have hb := B.bytes
  have hr := B.returns
  have hts0 := atoms_spec (ws := wsX4_put) B.pre
  have hts := fun (w : Cond) (h : w ∈ lw_G) => hts0 w (List.mem_cons_of_mem _ h)
  have hown : s.vm.findClass RX4 = some m.cls := findClass_of_methodNamed B.named
  have hlocks := B.notSynchronized
  subst hsz
  have hD := hD0.self (sz := s.heap.size)
  generalize hAe : va_A (Wm g0 g1 g2 cB cC u) s.heap.size = A at hD ⊢
  have hA : ∀ q : Nat, s.heap.size ≤ q → A q := fun q h => by rw [← hAe]; exact Or.inr h
  have hS : va_S A s.heap s.heap [] := va_S.rf
  have hl := lv_entry ([.ref g0, .int p0, .long p1]) (n := 4) (Nat.le_of_ble_eq_true rfl)
  rw [lg_entry_eq]
  generalize (lg_sl ([.ref g0, .int p0, .long p1]) ++ List.replicate (4 - (lg_sl ([.ref g0, .int p0, .long p1])).length) Slot.unset).toArray = ls at hl ⊢
  have hl : lv_has ls 4 [(0, .ref g0), (1, .int p0), (2, .long p1)] := hl
  refine lv_iload_n hx hb dX4_put_0 rfl (lv_at hl 1 rfl) ?_
  refine lv_if_le (tgt := 11) hx hb dX4_put_1 (by decide) (fun c1 => ?_) (fun c1 => ?_)
  · have hF : f_X4_put u p0 p1 = u := by unfold f_X4_put; rw [if_pos c1]
    exact W.vret hx hb hr (fun t ht hW => ⟨⟨u, rfl, hF.symm, by rw [ht]; exact hP, va_K.moved hW.alike hK, hD⟩, hS.F ht⟩) hS.2.2 dX4_put_11
  · refine lv_aload_n hx hb dX4_put_4 rfl (lv_at hl 0 rfl) ?_
    refine va_get (D := (dC, dI)) (ci := 1) (v := .ref g1) (C := RX4) (T := TX4) (N := 13) hx hb hts inX4 hown hK hP 0 rfl rfl 1 (by decide) (hts _ qw_273) (fun _ h9 => h9) rfl dX4_put_5 ?_
    refine lv_iload_n hx hb dX4_put_8 rfl (lv_at hl 1 rfl) ?_
    refine lv_lload_n hx hb dX4_put_9 rfl (lv_at hl 2 rfl) ?_
    refine va_last hx hb hK hP hD hS 1 0 rfl rfl (bd_put _ c1 hd) dX4_put_10 (fun H locs hP hD hS => ?_)
    have hP : va_P (dC, dI) vwCl (Wm g0 g1 g2 cB cC (sm1 u (vp_updL u.2.1 p0.toNatClampNeg p1))) H := hP
    have hD : va_D A (Wm g0 g1 g2 cB cC (sm1 u (vp_updL u.2.1 p0.toNatClampNeg p1))) := hD
    have hF : f_X4_put u p0 p1 = (sm1 u (vp_updL u.2.1 p0.toNatClampNeg p1)) := by unfold f_X4_put; rw [if_neg c1]
    exact W.vret hx hb hr (fun t ht hW => ⟨⟨(sm1 u (vp_updL u.2.1 p0.toNatClampNeg p1)), rfl, hF.symm, by rw [ht]; exact hP, va_K.moved hW.alike hK, hD⟩, hS.F ht⟩) hS.2.2 dX4_put_11
noncomputable def f_X4_get (u : SmT) (p0 : Int32) : Int64 × SmT :=
  if (f_X4_isRegister p0) = 0 then
    ((0 : Int64), (sm0 u (1 : Int32)))
  else
    ((u.2.1 p0.toNatClampNeg), (sm0 u (0 : Int32)))
set_option maxHeartbeats 4000000 in
set_option maxRecDepth 100000 in
theorem mt_X4_get (l : Launch) (dC : Nat → ClassId) (dI : Nat → Nat → Nat) (g0 g1 g2 : Nat) (cB cC : ClassId) (sz : Nat) (u : SmT) (p0 : Int32) : Met l yX4_get wsX4_get ({ frames := 1, cells := 0, slots := 0, locals := 20 }) (wr_P [.ref g0, .int p0] (dC, dI) vwCl (Wm g0 g1 g2 cB cC u) [(cB, .long), (cC, .long)] sz) (va_Ql (fun r v => r = (f_X4_get u p0).1 ∧ v = (f_X4_get u p0).2) (wr_B (dC, dI) vwCl [(cB, .long), (cC, .long)] (va_A (Wm g0 g1 g2 cB cC u) sz) (Wm g0 g1 g2 cB cC)) (va_A (Wm g0 g1 g2 cB cC u) sz)) 0 0 (va_A (Wm g0 g1 g2 cB cC u) sz) := by
  refine Met.ofW (cc := cX4_get) (maxL := 2) (ret := (some .long)) (by decide) rfl ?_
  intro p e s m args below meth c s₁ B hml hv
  obtain ⟨rfl, hsz, hP, hK, hD0⟩ := hv
  have hx := B.exec
  have hb := B.bytes
  have hr := B.returns
  have hts0 := atoms_spec (ws := wsX4_get) B.pre
  have hts := fun (w : Cond) (h : w ∈ lw_G) => hts0 w (List.mem_cons_of_mem _ h)
  have hown : s.vm.findClass RX4 = some m.cls := findClass_of_methodNamed B.named
  have hlocks := B.notSynchronized
  subst hsz
  have hD := hD0.self (sz := s.heap.size)
  generalize hAe : va_A (Wm g0 g1 g2 cB cC u) s.heap.size = A at hD ⊢
  have hA : ∀ q : Nat, s.heap.size ≤ q → A q := fun q h => by rw [← hAe]; exact Or.inr h
  have hS : va_S A s.heap s.heap [] := va_S.rf
  have hl := lv_entry ([.ref g0, .int p0]) (n := 2) (Nat.le_of_ble_eq_true rfl)
  rw [lg_entry_eq]
  generalize (lg_sl ([.ref g0, .int p0]) ++ List.replicate (2 - (lg_sl ([.ref g0, .int p0])).length) Slot.unset).toArray = ls at hl ⊢
  have hl : lv_has ls 2 [(0, .ref g0), (1, .int p0)] := hl
  refine lv_aload_n hx hb dX4_get_0 rfl (lv_at hl 0 rfl) ?_
  refine lv_iload_n hx hb dX4_get_1 rfl (lv_at hl 1 rfl) ?_
  refine W.callV (W.runS (As := [.int p0]) (rest := [.ref g0]) ⟨hx, hb, hml, hown, hts⟩ (mt_X4_isRegister l p0) (va_cwS 1 hts gX4_23_X4_isRegister rfl rfl rfl (by decide +kernel) ⟨Nat.le_of_ble_eq_true rfl, Nat.le_of_ble_eq_true rfl⟩) preEq rfl rfl hl.1 rfl (lv_room (Nat.le_of_ble_eq_true rfl)) dX4_get_2 ⟨Nat.le_of_ble_eq_true rfl, Nat.le_of_ble_eq_true rfl⟩) ?_
  refine W.eq (g2 := F0 m 5 ls [.int (f_X4_isRegister p0), .ref g0]) rfl ?_
  refine lv_if_eq (tgt := 12) hx hb dX4_get_5 (by decide) (fun c1 => ?_) (fun c1 => ?_)
  · refine lv_iconst (v := (1 : Int32)) hx hb dX4_get_12 (by decide) ?_
    refine va_put (D := (dC, dI)) (ci := 1) (v := .int (1 : Int32)) (ty := .int) (C := RX4) (T := TX4) (N := 13) hx hb hts inX4 tyX4 tyX4_ok nmX4 hown hK hP hD hS 0 rfl rfl 0 (by decide) (hts _ qw_258) (fun _ h9 => h9) rfl (by decide +kernel) rfl rfl (Nat.le_of_ble_eq_true rfl) dX4_get_13 (fun H locs hP hD hS => ?_)
    have hP : va_P (dC, dI) vwCl (Wm g0 g1 g2 cB cC (sm0 u (1 : Int32))) H := hP
    have hD : va_D A (Wm g0 g1 g2 cB cC (sm0 u (1 : Int32))) := hD
    refine lv_aload_n hx hb dX4_get_16 rfl (lv_at hl 0 rfl) ?_
    refine va_get (D := (dC, dI)) (ci := 1) (v := .int (1 : Int32)) (C := RX4) (T := TX4) (N := 13) hx hb hts inX4 hown hK hP 0 rfl rfl 0 (by decide) (hts _ qw_258) (fun _ h9 => h9) rfl dX4_get_17 ?_
    refine lv_if_ne (tgt := 32) hx hb dX4_get_20 (by decide) (fun _ => ?_) (fun c_ => absurd c_ (by decide))
    refine lv_lconst (v := (0 : Int64)) hx hb dX4_get_32 (by decide) ?_
    have hF : f_X4_get u p0 = ((0 : Int64), (sm0 u (1 : Int32))) := by unfold f_X4_get; rw [if_pos c1]
    exact W.lret (v := (0 : Int64)) hx hb hr (fun t ht hW => ⟨⟨(0 : Int64), (sm0 u (1 : Int32)), rfl, ⟨(congrArg Prod.fst hF).symm, (congrArg Prod.snd hF).symm⟩, by rw [ht]; exact hP, va_K.moved hW.alike hK, hD⟩, hS.F ht⟩) hS.2.2 dX4_get_33
  · refine lv_iconst (v := (0 : Int32)) hx hb dX4_get_8 (by decide) ?_
    refine lv_goto (tgt := 13) hx hb dX4_get_9 (by decide) ?_
    refine va_put (D := (dC, dI)) (ci := 1) (v := .int (0 : Int32)) (ty := .int) (C := RX4) (T := TX4) (N := 13) hx hb hts inX4 tyX4 tyX4_ok nmX4 hown hK hP hD hS 0 rfl rfl 0 (by decide) (hts _ qw_258) (fun _ h9 => h9) rfl (by decide +kernel) rfl rfl (Nat.le_of_ble_eq_true rfl) dX4_get_13 (fun H locs hP hD hS => ?_)
    have hP : va_P (dC, dI) vwCl (Wm g0 g1 g2 cB cC (sm0 u (0 : Int32))) H := hP
    have hD : va_D A (Wm g0 g1 g2 cB cC (sm0 u (0 : Int32))) := hD
    refine lv_aload_n hx hb dX4_get_16 rfl (lv_at hl 0 rfl) ?_
    refine va_get (D := (dC, dI)) (ci := 1) (v := .int (0 : Int32)) (C := RX4) (T := TX4) (N := 13) hx hb hts inX4 hown hK hP 0 rfl rfl 0 (by decide) (hts _ qw_258) (fun _ h9 => h9) rfl dX4_get_17 ?_
    refine lv_if_ne (tgt := 32) hx hb dX4_get_20 (by decide) (fun c_ => absurd c_ (by decide)) (fun _ => ?_)
    refine lv_aload_n hx hb dX4_get_23 rfl (lv_at hl 0 rfl) ?_
    refine va_get (D := (dC, dI)) (ci := 1) (v := .ref g1) (C := RX4) (T := TX4) (N := 13) hx hb hts inX4 hown hK hP 0 rfl rfl 1 (by decide) (hts _ qw_273) (fun _ h9 => h9) rfl dX4_get_24 ?_
    refine lv_iload_n hx hb dX4_get_27 rfl (lv_at hl 1 rfl) ?_
    refine va_lald hx hb hK hP 1 0 rfl rfl (bd_regm _ c1) dX4_get_28 ?_
    refine lv_goto (tgt := 33) hx hb dX4_get_29 (by decide) ?_
    have hF : f_X4_get u p0 = ((u.2.1 p0.toNatClampNeg), (sm0 u (0 : Int32))) := by unfold f_X4_get; rw [if_neg c1]
    exact W.lret (v := (u.2.1 p0.toNatClampNeg)) hx hb hr (fun t ht hW => ⟨⟨(u.2.1 p0.toNatClampNeg), (sm0 u (0 : Int32)), rfl, ⟨(congrArg Prod.fst hF).symm, (congrArg Prod.snd hF).symm⟩, by rw [ht]; exact hP, va_K.moved hW.alike hK, hD⟩, hS.F ht⟩) hS.2.2 dX4_get_33

noncomputable def f_X4_set (u : SmT) (p0 : Int32) (p1 : Int64) : SmT :=
  if (f_X4_isRegister p0) = 0 then
    (sm0 u (1 : Int32))
  else
    (f_X4_put (sm0 u (0 : Int32)) p0 p1)
set_option maxHeartbeats 4000000 in
set_option maxRecDepth 100000 in
theorem mt_X4_set (l : Launch) (dC : Nat → ClassId) (dI : Nat → Nat → Nat) (g0 g1 g2 : Nat) (cB cC : ClassId) (sz : Nat) (u : SmT) (p0 : Int32) (p1 : Int64) : Met l yX4_set wsX4_set ({ frames := 1, cells := 0, slots := 0, locals := 23 }) (wr_P [.ref g0, .int p0, .long p1] (dC, dI) vwCl (Wm g0 g1 g2 cB cC u) [(cB, .long), (cC, .long)] sz) (va_Qv (fun v => v = f_X4_set u p0 p1) (wr_B (dC, dI) vwCl [(cB, .long), (cC, .long)] (va_A (Wm g0 g1 g2 cB cC u) sz) (Wm g0 g1 g2 cB cC)) (va_A (Wm g0 g1 g2 cB cC u) sz)) 0 0 (va_A (Wm g0 g1 g2 cB cC u) sz) := by
  refine Met.ofW (cc := cX4_set) (maxL := 4) (ret := none) (by decide) rfl ?_
  intro p e s m args below meth c s₁ B hml hv
  obtain ⟨rfl, hsz, hP, hK, hD0⟩ := hv
  have hx := B.exec
  have hb := B.bytes
  have hr := B.returns
  have hts0 := atoms_spec (ws := wsX4_set) B.pre
  have hts := fun (w : Cond) (h : w ∈ lw_G) => hts0 w (List.mem_cons_of_mem _ h)
  have hown : s.vm.findClass RX4 = some m.cls := findClass_of_methodNamed B.named
  have hlocks := B.notSynchronized
  subst hsz
  have hD := hD0.self (sz := s.heap.size)
  generalize hAe : va_A (Wm g0 g1 g2 cB cC u) s.heap.size = A at hD ⊢
  have hA : ∀ q : Nat, s.heap.size ≤ q → A q := fun q h => by rw [← hAe]; exact Or.inr h
  have hS : va_S A s.heap s.heap [] := va_S.rf
  have hl := lv_entry ([.ref g0, .int p0, .long p1]) (n := 4) (Nat.le_of_ble_eq_true rfl)
  rw [lg_entry_eq]
  generalize (lg_sl ([.ref g0, .int p0, .long p1]) ++ List.replicate (4 - (lg_sl ([.ref g0, .int p0, .long p1])).length) Slot.unset).toArray = ls at hl ⊢
  have hl : lv_has ls 4 [(0, .ref g0), (1, .int p0), (2, .long p1)] := hl
  refine lv_aload_n hx hb dX4_set_0 rfl (lv_at hl 0 rfl) ?_
  refine lv_iload_n hx hb dX4_set_1 rfl (lv_at hl 1 rfl) ?_
  refine W.callV (W.runS (As := [.int p0]) (rest := [.ref g0]) ⟨hx, hb, hml, hown, hts⟩ (mt_X4_isRegister l p0) (va_cwS 1 hts gX4_23_X4_isRegister rfl rfl rfl (by decide +kernel) ⟨Nat.le_of_ble_eq_true rfl, Nat.le_of_ble_eq_true rfl⟩) preEq rfl rfl hl.1 rfl (lv_room (Nat.le_of_ble_eq_true rfl)) dX4_set_2 ⟨Nat.le_of_ble_eq_true rfl, Nat.le_of_ble_eq_true rfl⟩) ?_
  refine W.eq (g2 := F0 m 5 ls [.int (f_X4_isRegister p0), .ref g0]) rfl ?_
  refine lv_if_eq (tgt := 12) hx hb dX4_set_5 (by decide) (fun c1 => ?_) (fun c1 => ?_)
  · refine lv_iconst (v := (1 : Int32)) hx hb dX4_set_12 (by decide) ?_
    refine va_put (D := (dC, dI)) (ci := 1) (v := .int (1 : Int32)) (ty := .int) (C := RX4) (T := TX4) (N := 13) hx hb hts inX4 tyX4 tyX4_ok nmX4 hown hK hP hD hS 0 rfl rfl 0 (by decide) (hts _ qw_258) (fun _ h9 => h9) rfl (by decide +kernel) rfl rfl (Nat.le_of_ble_eq_true rfl) dX4_set_13 (fun H locs hP hD hS => ?_)
    have hP : va_P (dC, dI) vwCl (Wm g0 g1 g2 cB cC (sm0 u (1 : Int32))) H := hP
    have hD : va_D A (Wm g0 g1 g2 cB cC (sm0 u (1 : Int32))) := hD
    refine lv_aload_n hx hb dX4_set_16 rfl (lv_at hl 0 rfl) ?_
    refine va_get (D := (dC, dI)) (ci := 1) (v := .int (1 : Int32)) (C := RX4) (T := TX4) (N := 13) hx hb hts inX4 hown hK hP 0 rfl rfl 0 (by decide) (hts _ qw_258) (fun _ h9 => h9) rfl dX4_set_17 ?_
    refine lv_if_ne (tgt := 29) hx hb dX4_set_20 (by decide) (fun _ => ?_) (fun c_ => absurd c_ (by decide))
    have hF : f_X4_set u p0 p1 = (sm0 u (1 : Int32)) := by unfold f_X4_set; rw [if_pos c1]
    exact W.vret hx hb hr (fun t ht hW => ⟨⟨(sm0 u (1 : Int32)), rfl, hF.symm, by rw [ht]; exact hP, va_K.moved hW.alike hK, hD⟩, hS.F ht⟩) hS.2.2 dX4_set_29
  · refine lv_iconst (v := (0 : Int32)) hx hb dX4_set_8 (by decide) ?_
    refine lv_goto (tgt := 13) hx hb dX4_set_9 (by decide) ?_
    refine va_put (D := (dC, dI)) (ci := 1) (v := .int (0 : Int32)) (ty := .int) (C := RX4) (T := TX4) (N := 13) hx hb hts inX4 tyX4 tyX4_ok nmX4 hown hK hP hD hS 0 rfl rfl 0 (by decide) (hts _ qw_258) (fun _ h9 => h9) rfl (by decide +kernel) rfl rfl (Nat.le_of_ble_eq_true rfl) dX4_set_13 (fun H locs hP hD hS => ?_)
    have hP : va_P (dC, dI) vwCl (Wm g0 g1 g2 cB cC (sm0 u (0 : Int32))) H := hP
    have hD : va_D A (Wm g0 g1 g2 cB cC (sm0 u (0 : Int32))) := hD
    refine lv_aload_n hx hb dX4_set_16 rfl (lv_at hl 0 rfl) ?_
    refine va_get (D := (dC, dI)) (ci := 1) (v := .int (0 : Int32)) (C := RX4) (T := TX4) (N := 13) hx hb hts inX4 hown hK hP 0 rfl rfl 0 (by decide) (hts _ qw_258) (fun _ h9 => h9) rfl dX4_set_17 ?_
    refine lv_if_ne (tgt := 29) hx hb dX4_set_20 (by decide) (fun c_ => absurd c_ (by decide)) (fun _ => ?_)
    refine lv_aload_n hx hb dX4_set_23 rfl (lv_at hl 0 rfl) ?_
    refine lv_iload_n hx hb dX4_set_24 rfl (lv_at hl 1 rfl) ?_
    refine lv_lload_n hx hb dX4_set_25 rfl (lv_at hl 2 rfl) ?_
    refine wr_callv (wr := []) (va_runV (As := [.int p0, .long p1]) (rest := []) ⟨hx, hb, hml, hown, hts⟩ (mt_X4_put l dC dI g0 g1 g2 cB cC H.size (sm0 u (0 : Int32)) p0 p1 (bd_rle _ c1)) (cwV 2 hts gX4_27_X4_put rfl rfl rfl (by decide +kernel) ⟨Nat.le_of_ble_eq_true rfl, Nat.le_of_ble_eq_true rfl⟩) (wr_V hK hP hD (ci := 1) (q0 := 0) rfl rfl rfl) rfl rfl hl.1 rfl (lv_room (Nat.le_of_ble_eq_true rfl)) dX4_set_26 ⟨Nat.le_of_ble_eq_true rfl, Nat.le_of_ble_eq_true rfl⟩) hS hP hD hA [0, 1, 2] [] rfl rfl (by decide) (by decide) (fun v_ H locs hw hP hD hS => ?_)
    subst hw
    refine W.eq (g2 := F0 m 29 ls []) rfl ?_
    have hP : va_P (dC, dI) vwCl (Wm g0 g1 g2 cB cC (f_X4_put (sm0 u (0 : Int32)) p0 p1)) H := hP
    have hD : va_D A (Wm g0 g1 g2 cB cC (f_X4_put (sm0 u (0 : Int32)) p0 p1)) := hD
    have hF : f_X4_set u p0 p1 = (f_X4_put (sm0 u (0 : Int32)) p0 p1) := by unfold f_X4_set; rw [if_neg c1]
    exact W.vret hx hb hr (fun t ht hW => ⟨⟨(f_X4_put (sm0 u (0 : Int32)) p0 p1), rfl, hF.symm, by rw [ht]; exact hP, va_K.moved hW.alike hK, hD⟩, hS.F ht⟩) hS.2.2 dX4_set_29

noncomputable def f_X4_counter (u : SmT) : Int64 × SmT :=
  (u.2.2.1, (sm0 u (0 : Int32)))
set_option maxHeartbeats 4000000 in
set_option maxRecDepth 100000 in
theorem mt_X4_counter (l : Launch) (dC : Nat → ClassId) (dI : Nat → Nat → Nat) (g0 g1 g2 : Nat) (cB cC : ClassId) (sz : Nat) (u : SmT)  : Met l yX4_counter wsX4_counter ({ frames := 0, cells := 0, slots := 0, locals := 0 }) (wr_P [.ref g0] (dC, dI) vwCl (Wm g0 g1 g2 cB cC u) [(cB, .long), (cC, .long)] sz) (va_Ql (fun r v => r = (f_X4_counter u).1 ∧ v = (f_X4_counter u).2) (wr_B (dC, dI) vwCl [(cB, .long), (cC, .long)] (va_A (Wm g0 g1 g2 cB cC u) sz) (Wm g0 g1 g2 cB cC)) (va_A (Wm g0 g1 g2 cB cC u) sz)) 0 0 (va_A (Wm g0 g1 g2 cB cC u) sz) := by
  refine Met.ofW (cc := cX4_counter) (maxL := 1) (ret := (some .long)) (by decide) rfl ?_
  intro p e s m args below meth c s₁ B hml hv
  obtain ⟨rfl, hsz, hP, hK, hD0⟩ := hv
  have hx := B.exec
  have hb := B.bytes
  have hr := B.returns
  have hts0 := atoms_spec (ws := wsX4_counter) B.pre
  have hts := fun (w : Cond) (h : w ∈ lw_G) => hts0 w (List.mem_cons_of_mem _ h)
  have hown : s.vm.findClass RX4 = some m.cls := findClass_of_methodNamed B.named
  have hlocks := B.notSynchronized
  subst hsz
  have hD := hD0.self (sz := s.heap.size)
  generalize hAe : va_A (Wm g0 g1 g2 cB cC u) s.heap.size = A at hD ⊢
  have hA : ∀ q : Nat, s.heap.size ≤ q → A q := fun q h => by rw [← hAe]; exact Or.inr h
  have hS : va_S A s.heap s.heap [] := va_S.rf
  have hl := lv_entry ([.ref g0]) (n := 1) (Nat.le_of_ble_eq_true rfl)
  rw [lg_entry_eq]
  generalize (lg_sl ([.ref g0]) ++ List.replicate (1 - (lg_sl ([.ref g0])).length) Slot.unset).toArray = ls at hl ⊢
  have hl : lv_has ls 1 [(0, .ref g0)] := hl
  refine lv_aload_n hx hb dX4_counter_0 rfl (lv_at hl 0 rfl) ?_
  refine lv_iconst (v := (0 : Int32)) hx hb dX4_counter_1 (by decide) ?_
  refine va_put (D := (dC, dI)) (ci := 1) (v := .int (0 : Int32)) (ty := .int) (C := RX4) (T := TX4) (N := 13) hx hb hts inX4 tyX4 tyX4_ok nmX4 hown hK hP hD hS 0 rfl rfl 0 (by decide) (hts _ qw_258) (fun _ h9 => h9) rfl (by decide +kernel) rfl rfl (Nat.le_of_ble_eq_true rfl) dX4_counter_2 (fun H locs hP hD hS => ?_)
  have hP : va_P (dC, dI) vwCl (Wm g0 g1 g2 cB cC (sm0 u (0 : Int32))) H := hP
  have hD : va_D A (Wm g0 g1 g2 cB cC (sm0 u (0 : Int32))) := hD
  refine lv_aload_n hx hb dX4_counter_5 rfl (lv_at hl 0 rfl) ?_
  refine va_get (D := (dC, dI)) (ci := 1) (v := .long u.2.2.1) (C := RX4) (T := TX4) (N := 13) hx hb hts inX4 hown hK hP 0 rfl rfl 2 (by decide) (hts _ qw_281) (fun _ h9 => h9) rfl dX4_counter_6 ?_
  have hF : f_X4_counter u = (u.2.2.1, (sm0 u (0 : Int32))) := rfl
  exact W.lret (v := u.2.2.1) hx hb hr (fun t ht hW => ⟨⟨u.2.2.1, (sm0 u (0 : Int32)), rfl, ⟨(congrArg Prod.fst hF).symm, (congrArg Prod.snd hF).symm⟩, by rw [ht]; exact hP, va_K.moved hW.alike hK, hD⟩, hS.F ht⟩) hS.2.2 dX4_counter_9

noncomputable def f_X4_jump (u : SmT) (p0 : Int64) : SmT :=
  (sm8 (sm2 (sm0 u (0 : Int32)) (p0 - (p0 &&& (1 : Int64)))) (-1 : Int32))
set_option maxHeartbeats 4000000 in
set_option maxRecDepth 100000 in
theorem mt_X4_jump (l : Launch) (dC : Nat → ClassId) (dI : Nat → Nat → Nat) (g0 g1 g2 : Nat) (cB cC : ClassId) (sz : Nat) (u : SmT) (p0 : Int64) : Met l yX4_jump wsX4_jump ({ frames := 0, cells := 0, slots := 0, locals := 0 }) (wr_P [.ref g0, .long p0] (dC, dI) vwCl (Wm g0 g1 g2 cB cC u) [(cB, .long), (cC, .long)] sz) (va_Qv (fun v => v = f_X4_jump u p0) (wr_B (dC, dI) vwCl [(cB, .long), (cC, .long)] (va_A (Wm g0 g1 g2 cB cC u) sz) (Wm g0 g1 g2 cB cC)) (va_A (Wm g0 g1 g2 cB cC u) sz)) 0 0 (va_A (Wm g0 g1 g2 cB cC u) sz) := by
  refine Met.ofW (cc := cX4_jump) (maxL := 3) (ret := none) (by decide) rfl ?_
  intro p e s m args below meth c s₁ B hml hv
  obtain ⟨rfl, hsz, hP, hK, hD0⟩ := hv
  have hx := B.exec
  have hb := B.bytes
  have hr := B.returns
  have hts0 := atoms_spec (ws := wsX4_jump) B.pre
  have hts := fun (w : Cond) (h : w ∈ lw_G) => hts0 w (List.mem_cons_of_mem _ h)
  have hown : s.vm.findClass RX4 = some m.cls := findClass_of_methodNamed B.named
  have hlocks := B.notSynchronized
  subst hsz
  have hD := hD0.self (sz := s.heap.size)
  generalize hAe : va_A (Wm g0 g1 g2 cB cC u) s.heap.size = A at hD ⊢
  have hA : ∀ q : Nat, s.heap.size ≤ q → A q := fun q h => by rw [← hAe]; exact Or.inr h
  have hS : va_S A s.heap s.heap [] := va_S.rf
  have hl := lv_entry ([.ref g0, .long p0]) (n := 3) (Nat.le_of_ble_eq_true rfl)
  rw [lg_entry_eq]
  generalize (lg_sl ([.ref g0, .long p0]) ++ List.replicate (3 - (lg_sl ([.ref g0, .long p0])).length) Slot.unset).toArray = ls at hl ⊢
  have hl : lv_has ls 3 [(0, .ref g0), (1, .long p0)] := hl
  refine lv_aload_n hx hb dX4_jump_0 rfl (lv_at hl 0 rfl) ?_
  refine lv_iconst (v := (0 : Int32)) hx hb dX4_jump_1 (by decide) ?_
  refine va_put (D := (dC, dI)) (ci := 1) (v := .int (0 : Int32)) (ty := .int) (C := RX4) (T := TX4) (N := 13) hx hb hts inX4 tyX4 tyX4_ok nmX4 hown hK hP hD hS 0 rfl rfl 0 (by decide) (hts _ qw_258) (fun _ h9 => h9) rfl (by decide +kernel) rfl rfl (Nat.le_of_ble_eq_true rfl) dX4_jump_2 (fun H locs hP hD hS => ?_)
  have hP : va_P (dC, dI) vwCl (Wm g0 g1 g2 cB cC (sm0 u (0 : Int32))) H := hP
  have hD : va_D A (Wm g0 g1 g2 cB cC (sm0 u (0 : Int32))) := hD
  refine lv_aload_n hx hb dX4_jump_5 rfl (lv_at hl 0 rfl) ?_
  refine lv_lload_n hx hb dX4_jump_6 rfl (lv_at hl 1 rfl) ?_
  refine lv_lload_n hx hb dX4_jump_7 rfl (lv_at hl 1 rfl) ?_
  refine lv_lconst (v := (1 : Int64)) hx hb dX4_jump_8 (by decide) ?_
  refine lv_land hx hb dX4_jump_9 ?_
  refine lv_lsub hx hb dX4_jump_10 ?_
  refine va_put (D := (dC, dI)) (ci := 1) (v := .long (p0 - (p0 &&& (1 : Int64)))) (ty := .long) (C := RX4) (T := TX4) (N := 13) hx hb hts inX4 tyX4 tyX4_ok nmX4 hown hK hP hD hS 0 rfl rfl 2 (by decide) (hts _ qw_281) (fun _ h9 => h9) rfl (by decide +kernel) rfl rfl (Nat.le_of_ble_eq_true rfl) dX4_jump_11 (fun H locs hP hD hS => ?_)
  have hP : va_P (dC, dI) vwCl (Wm g0 g1 g2 cB cC (sm2 (sm0 u (0 : Int32)) (p0 - (p0 &&& (1 : Int64))))) H := hP
  have hD : va_D A (Wm g0 g1 g2 cB cC (sm2 (sm0 u (0 : Int32)) (p0 - (p0 &&& (1 : Int64))))) := hD
  refine lv_aload_n hx hb dX4_jump_14 rfl (lv_at hl 0 rfl) ?_
  refine lv_iconst (v := (-1 : Int32)) hx hb dX4_jump_15 (by decide) ?_
  refine va_put (D := (dC, dI)) (ci := 1) (v := .int (-1 : Int32)) (ty := .int) (C := RX4) (T := TX4) (N := 13) hx hb hts inX4 tyX4 tyX4_ok nmX4 hown hK hP hD hS 0 rfl rfl 8 (by decide) (hts _ qw_282) (fun _ h9 => h9) rfl (by decide +kernel) rfl rfl (Nat.le_of_ble_eq_true rfl) dX4_jump_16 (fun H locs hP hD hS => ?_)
  have hP : va_P (dC, dI) vwCl (Wm g0 g1 g2 cB cC (sm8 (sm2 (sm0 u (0 : Int32)) (p0 - (p0 &&& (1 : Int64)))) (-1 : Int32))) H := hP
  have hD : va_D A (Wm g0 g1 g2 cB cC (sm8 (sm2 (sm0 u (0 : Int32)) (p0 - (p0 &&& (1 : Int64)))) (-1 : Int32))) := hD
  have hF : f_X4_jump u p0 = (sm8 (sm2 (sm0 u (0 : Int32)) (p0 - (p0 &&& (1 : Int64)))) (-1 : Int32)) := rfl
  exact W.vret hx hb hr (fun t ht hW => ⟨⟨(sm8 (sm2 (sm0 u (0 : Int32)) (p0 - (p0 &&& (1 : Int64)))) (-1 : Int32)), rfl, hF.symm, by rw [ht]; exact hP, va_K.moved hW.alike hK, hD⟩, hS.F ht⟩) hS.2.2 dX4_jump_19

noncomputable def f_X4_done (u : SmT) : Int64 × SmT :=
  (u.2.2.2.1, (sm0 u (0 : Int32)))
set_option maxHeartbeats 4000000 in
set_option maxRecDepth 100000 in
theorem mt_X4_done (l : Launch) (dC : Nat → ClassId) (dI : Nat → Nat → Nat) (g0 g1 g2 : Nat) (cB cC : ClassId) (sz : Nat) (u : SmT)  : Met l yX4_done wsX4_done ({ frames := 0, cells := 0, slots := 0, locals := 0 }) (wr_P [.ref g0] (dC, dI) vwCl (Wm g0 g1 g2 cB cC u) [(cB, .long), (cC, .long)] sz) (va_Ql (fun r v => r = (f_X4_done u).1 ∧ v = (f_X4_done u).2) (wr_B (dC, dI) vwCl [(cB, .long), (cC, .long)] (va_A (Wm g0 g1 g2 cB cC u) sz) (Wm g0 g1 g2 cB cC)) (va_A (Wm g0 g1 g2 cB cC u) sz)) 0 0 (va_A (Wm g0 g1 g2 cB cC u) sz) := by
  refine Met.ofW (cc := cX4_done) (maxL := 1) (ret := (some .long)) (by decide) rfl ?_
  intro p e s m args below meth c s₁ B hml hv
  obtain ⟨rfl, hsz, hP, hK, hD0⟩ := hv
  have hx := B.exec
  have hb := B.bytes
  have hr := B.returns
  have hts0 := atoms_spec (ws := wsX4_done) B.pre
  have hts := fun (w : Cond) (h : w ∈ lw_G) => hts0 w (List.mem_cons_of_mem _ h)
  have hown : s.vm.findClass RX4 = some m.cls := findClass_of_methodNamed B.named
  have hlocks := B.notSynchronized
  subst hsz
  have hD := hD0.self (sz := s.heap.size)
  generalize hAe : va_A (Wm g0 g1 g2 cB cC u) s.heap.size = A at hD ⊢
  have hA : ∀ q : Nat, s.heap.size ≤ q → A q := fun q h => by rw [← hAe]; exact Or.inr h
  have hS : va_S A s.heap s.heap [] := va_S.rf
  have hl := lv_entry ([.ref g0]) (n := 1) (Nat.le_of_ble_eq_true rfl)
  rw [lg_entry_eq]
  generalize (lg_sl ([.ref g0]) ++ List.replicate (1 - (lg_sl ([.ref g0])).length) Slot.unset).toArray = ls at hl ⊢
  have hl : lv_has ls 1 [(0, .ref g0)] := hl
  refine lv_aload_n hx hb dX4_done_0 rfl (lv_at hl 0 rfl) ?_
  refine lv_iconst (v := (0 : Int32)) hx hb dX4_done_1 (by decide) ?_
  refine va_put (D := (dC, dI)) (ci := 1) (v := .int (0 : Int32)) (ty := .int) (C := RX4) (T := TX4) (N := 13) hx hb hts inX4 tyX4 tyX4_ok nmX4 hown hK hP hD hS 0 rfl rfl 0 (by decide) (hts _ qw_258) (fun _ h9 => h9) rfl (by decide +kernel) rfl rfl (Nat.le_of_ble_eq_true rfl) dX4_done_2 (fun H locs hP hD hS => ?_)
  have hP : va_P (dC, dI) vwCl (Wm g0 g1 g2 cB cC (sm0 u (0 : Int32))) H := hP
  have hD : va_D A (Wm g0 g1 g2 cB cC (sm0 u (0 : Int32))) := hD
  refine lv_aload_n hx hb dX4_done_5 rfl (lv_at hl 0 rfl) ?_
  refine va_get (D := (dC, dI)) (ci := 1) (v := .long u.2.2.2.1) (C := RX4) (T := TX4) (N := 13) hx hb hts inX4 hown hK hP 0 rfl rfl 3 (by decide) (hts _ qw_283) (fun _ h9 => h9) rfl dX4_done_6 ?_
  have hF : f_X4_done u = (u.2.2.2.1, (sm0 u (0 : Int32))) := rfl
  exact W.lret (v := u.2.2.2.1) hx hb hr (fun t ht hW => ⟨⟨u.2.2.2.1, (sm0 u (0 : Int32)), rfl, ⟨(congrArg Prod.fst hF).symm, (congrArg Prod.snd hF).symm⟩, by rw [ht]; exact hP, va_K.moved hW.alike hK, hD⟩, hS.F ht⟩) hS.2.2 dX4_done_9

noncomputable def f_X4_go (u : SmT) (p0 : Int64) : Int32 × SmT :=
  ((0 : Int32), (sm3 (sm2 u p0) (u.2.2.2.1 + (1 : Int64))))
set_option maxHeartbeats 4000000 in
set_option maxRecDepth 100000 in
theorem mt_X4_go (l : Launch) (dC : Nat → ClassId) (dI : Nat → Nat → Nat) (g0 g1 g2 : Nat) (cB cC : ClassId) (sz : Nat) (u : SmT) (p0 : Int64) : Met l yX4_go wsX4_go ({ frames := 0, cells := 0, slots := 0, locals := 0 }) (wr_P [.ref g0, .long p0] (dC, dI) vwCl (Wm g0 g1 g2 cB cC u) [(cB, .long), (cC, .long)] sz) (va_Qi (fun r v => r = (f_X4_go u p0).1 ∧ v = (f_X4_go u p0).2) (wr_B (dC, dI) vwCl [(cB, .long), (cC, .long)] (va_A (Wm g0 g1 g2 cB cC u) sz) (Wm g0 g1 g2 cB cC)) (va_A (Wm g0 g1 g2 cB cC u) sz)) 0 0 (va_A (Wm g0 g1 g2 cB cC u) sz) := by
  refine Met.ofW (cc := cX4_go) (maxL := 3) (ret := (some .int)) (by decide) rfl ?_
  intro p e s m args below meth c s₁ B hml hv
  obtain ⟨rfl, hsz, hP, hK, hD0⟩ := hv
  have hx := B.exec
  have hb := B.bytes
  have hr := B.returns
  have hts0 := atoms_spec (ws := wsX4_go) B.pre
  have hts := fun (w : Cond) (h : w ∈ lw_G) => hts0 w (List.mem_cons_of_mem _ h)
  have hown : s.vm.findClass RX4 = some m.cls := findClass_of_methodNamed B.named
  have hlocks := B.notSynchronized
  subst hsz
  have hD := hD0.self (sz := s.heap.size)
  generalize hAe : va_A (Wm g0 g1 g2 cB cC u) s.heap.size = A at hD ⊢
  have hA : ∀ q : Nat, s.heap.size ≤ q → A q := fun q h => by rw [← hAe]; exact Or.inr h
  have hS : va_S A s.heap s.heap [] := va_S.rf
  have hl := lv_entry ([.ref g0, .long p0]) (n := 3) (Nat.le_of_ble_eq_true rfl)
  rw [lg_entry_eq]
  generalize (lg_sl ([.ref g0, .long p0]) ++ List.replicate (3 - (lg_sl ([.ref g0, .long p0])).length) Slot.unset).toArray = ls at hl ⊢
  have hl : lv_has ls 3 [(0, .ref g0), (1, .long p0)] := hl
  refine lv_aload_n hx hb dX4_go_0 rfl (lv_at hl 0 rfl) ?_
  refine lv_lload_n hx hb dX4_go_1 rfl (lv_at hl 1 rfl) ?_
  refine va_put (D := (dC, dI)) (ci := 1) (v := .long p0) (ty := .long) (C := RX4) (T := TX4) (N := 13) hx hb hts inX4 tyX4 tyX4_ok nmX4 hown hK hP hD hS 0 rfl rfl 2 (by decide) (hts _ qw_281) (fun _ h9 => h9) rfl (by decide +kernel) rfl rfl (Nat.le_of_ble_eq_true rfl) dX4_go_2 (fun H locs hP hD hS => ?_)
  have hP : va_P (dC, dI) vwCl (Wm g0 g1 g2 cB cC (sm2 u p0)) H := hP
  have hD : va_D A (Wm g0 g1 g2 cB cC (sm2 u p0)) := hD
  refine lv_aload_n hx hb dX4_go_5 rfl (lv_at hl 0 rfl) ?_
  refine lv_dup hx hb dX4_go_6 rfl ?_
  refine va_get (D := (dC, dI)) (ci := 1) (v := .long u.2.2.2.1) (C := RX4) (T := TX4) (N := 13) hx hb hts inX4 hown hK hP 0 rfl rfl 3 (by decide) (hts _ qw_283) (fun _ h9 => h9) rfl dX4_go_7 ?_
  refine lv_lconst (v := (1 : Int64)) hx hb dX4_go_10 (by decide) ?_
  refine lv_ladd hx hb dX4_go_11 ?_
  refine va_put (D := (dC, dI)) (ci := 1) (v := .long (u.2.2.2.1 + (1 : Int64))) (ty := .long) (C := RX4) (T := TX4) (N := 13) hx hb hts inX4 tyX4 tyX4_ok nmX4 hown hK hP hD hS 0 rfl rfl 3 (by decide) (hts _ qw_283) (fun _ h9 => h9) rfl (by decide +kernel) rfl rfl (Nat.le_of_ble_eq_true rfl) dX4_go_12 (fun H locs hP hD hS => ?_)
  have hP : va_P (dC, dI) vwCl (Wm g0 g1 g2 cB cC (sm3 (sm2 u p0) (u.2.2.2.1 + (1 : Int64)))) H := hP
  have hD : va_D A (Wm g0 g1 g2 cB cC (sm3 (sm2 u p0) (u.2.2.2.1 + (1 : Int64)))) := hD
  refine lv_iconst (v := (0 : Int32)) hx hb dX4_go_15 (by decide) ?_
  have hF : f_X4_go u p0 = ((0 : Int32), (sm3 (sm2 u p0) (u.2.2.2.1 + (1 : Int64)))) := rfl
  exact W.iret (v := (0 : Int32)) hx hb hr (fun t ht hW => ⟨⟨(0 : Int32), (sm3 (sm2 u p0) (u.2.2.2.1 + (1 : Int64))), rfl, ⟨(congrArg Prod.fst hF).symm, (congrArg Prod.snd hF).symm⟩, by rw [ht]; exact hP, va_K.moved hW.alike hK, hD⟩, hS.F ht⟩) hS.2.2 dX4_go_16

noncomputable def f_X4_want (u : SmT) (p0 : Int32) (p1 : Int64) (p2 : Int64) (p3 : Int64) (p4 : Int64) (p5 : Int32) : Int32 × SmT :=
  (p0, (sm10 (sm9 (sm8 u p0) u.2.2.2.2.2.1) (vp_updL (vp_updL (vp_updL (vp_updL (vp_updL u.2.2.2.2.2.2.2.2.2.2.1 (0 : Int32).toNatClampNeg p1) (1 : Int32).toNatClampNeg p2) (2 : Int32).toNatClampNeg p3) (3 : Int32).toNatClampNeg p4) (4 : Int32).toNatClampNeg p5.toInt64)))
set_option maxHeartbeats 4000000 in
set_option maxRecDepth 100000 in
theorem mt_X4_want (l : Launch) (dC : Nat → ClassId) (dI : Nat → Nat → Nat) (g0 g1 g2 : Nat) (cB cC : ClassId) (sz : Nat) (u : SmT) (p0 : Int32) (p1 : Int64) (p2 : Int64) (p3 : Int64) (p4 : Int64) (p5 : Int32) : Met l yX4_want wsX4_want ({ frames := 0, cells := 0, slots := 0, locals := 0 }) (wr_P [.ref g0, .int p0, .long p1, .long p2, .long p3, .long p4, .int p5] (dC, dI) vwCl (Wm g0 g1 g2 cB cC u) [(cB, .long), (cC, .long)] sz) (va_Qi (fun r v => r = (f_X4_want u p0 p1 p2 p3 p4 p5).1 ∧ v = (f_X4_want u p0 p1 p2 p3 p4 p5).2) (wr_B (dC, dI) vwCl [(cB, .long), (cC, .long)] (va_A (Wm g0 g1 g2 cB cC u) sz) (Wm g0 g1 g2 cB cC)) (va_A (Wm g0 g1 g2 cB cC u) sz)) 0 0 (va_A (Wm g0 g1 g2 cB cC u) sz) := by
  refine Met.ofW (cc := cX4_want) (maxL := 11) (ret := (some .int)) (by decide) rfl ?_
  intro p e s m args below meth c s₁ B hml hv
  obtain ⟨rfl, hsz, hP, hK, hD0⟩ := hv
  have hx := B.exec
  have hb := B.bytes
  have hr := B.returns
  have hts0 := atoms_spec (ws := wsX4_want) B.pre
  have hts := fun (w : Cond) (h : w ∈ lw_G) => hts0 w (List.mem_cons_of_mem _ h)
  have hown : s.vm.findClass RX4 = some m.cls := findClass_of_methodNamed B.named
  have hlocks := B.notSynchronized
  subst hsz
  have hD := hD0.self (sz := s.heap.size)
  generalize hAe : va_A (Wm g0 g1 g2 cB cC u) s.heap.size = A at hD ⊢
  have hA : ∀ q : Nat, s.heap.size ≤ q → A q := fun q h => by rw [← hAe]; exact Or.inr h
  have hS : va_S A s.heap s.heap [] := va_S.rf
  have hl := lv_entry ([.ref g0, .int p0, .long p1, .long p2, .long p3, .long p4, .int p5]) (n := 11) (Nat.le_of_ble_eq_true rfl)
  rw [lg_entry_eq]
  generalize (lg_sl ([.ref g0, .int p0, .long p1, .long p2, .long p3, .long p4, .int p5]) ++ List.replicate (11 - (lg_sl ([.ref g0, .int p0, .long p1, .long p2, .long p3, .long p4, .int p5])).length) Slot.unset).toArray = ls at hl ⊢
  have hl : lv_has ls 11 [(0, .ref g0), (1, .int p0), (2, .long p1), (4, .long p2), (6, .long p3), (8, .long p4), (10, .int p5)] := hl
  refine lv_aload_n hx hb dX4_want_0 rfl (lv_at hl 0 rfl) ?_
  refine lv_iload_n hx hb dX4_want_1 rfl (lv_at hl 1 rfl) ?_
  refine va_put (D := (dC, dI)) (ci := 1) (v := .int p0) (ty := .int) (C := RX4) (T := TX4) (N := 13) hx hb hts inX4 tyX4 tyX4_ok nmX4 hown hK hP hD hS 0 rfl rfl 8 (by decide) (hts _ qw_282) (fun _ h9 => h9) rfl (by decide +kernel) rfl rfl (Nat.le_of_ble_eq_true rfl) dX4_want_2 (fun H locs hP hD hS => ?_)
  have hP : va_P (dC, dI) vwCl (Wm g0 g1 g2 cB cC (sm8 u p0)) H := hP
  have hD : va_D A (Wm g0 g1 g2 cB cC (sm8 u p0)) := hD
  refine lv_aload_n hx hb dX4_want_5 rfl (lv_at hl 0 rfl) ?_
  refine lv_aload_n hx hb dX4_want_6 rfl (lv_at hl 0 rfl) ?_
  refine va_get (D := (dC, dI)) (ci := 1) (v := .int u.2.2.2.2.2.1) (C := RX4) (T := TX4) (N := 13) hx hb hts inX4 hown hK hP 0 rfl rfl 5 (by decide) (hts _ qw_284) (fun _ h9 => h9) rfl dX4_want_7 ?_
  refine va_put (D := (dC, dI)) (ci := 1) (v := .int u.2.2.2.2.2.1) (ty := .int) (C := RX4) (T := TX4) (N := 13) hx hb hts inX4 tyX4 tyX4_ok nmX4 hown hK hP hD hS 0 rfl rfl 9 (by decide) (hts _ qw_285) (fun _ h9 => h9) rfl (by decide +kernel) rfl rfl (Nat.le_of_ble_eq_true rfl) dX4_want_10 (fun H locs hP hD hS => ?_)
  have hP : va_P (dC, dI) vwCl (Wm g0 g1 g2 cB cC (sm9 (sm8 u p0) u.2.2.2.2.2.1)) H := hP
  have hD : va_D A (Wm g0 g1 g2 cB cC (sm9 (sm8 u p0) u.2.2.2.2.2.1)) := hD
  refine lv_aload_n hx hb dX4_want_13 rfl (lv_at hl 0 rfl) ?_
  refine va_get (D := (dC, dI)) (ci := 1) (v := .ref g2) (C := RX4) (T := TX4) (N := 13) hx hb hts inX4 hown hK hP 0 rfl rfl 10 (by decide) (hts _ qw_271) (fun _ h9 => h9) rfl dX4_want_14 ?_
  refine lv_iconst (v := (0 : Int32)) hx hb dX4_want_17 (by decide) ?_
  refine lv_lload_n hx hb dX4_want_18 rfl (lv_at hl 2 rfl) ?_
  refine va_last hx hb hK hP hD hS 2 1 rfl rfl (by unfold vp_in; decide) dX4_want_19 (fun H locs hP hD hS => ?_)
  have hP : va_P (dC, dI) vwCl (Wm g0 g1 g2 cB cC (sm10 (sm9 (sm8 u p0) u.2.2.2.2.2.1) (vp_updL u.2.2.2.2.2.2.2.2.2.2.1 (0 : Int32).toNatClampNeg p1))) H := hP
  have hD : va_D A (Wm g0 g1 g2 cB cC (sm10 (sm9 (sm8 u p0) u.2.2.2.2.2.1) (vp_updL u.2.2.2.2.2.2.2.2.2.2.1 (0 : Int32).toNatClampNeg p1))) := hD
  refine lv_aload_n hx hb dX4_want_20 rfl (lv_at hl 0 rfl) ?_
  refine va_get (D := (dC, dI)) (ci := 1) (v := .ref g2) (C := RX4) (T := TX4) (N := 13) hx hb hts inX4 hown hK hP 0 rfl rfl 10 (by decide) (hts _ qw_271) (fun _ h9 => h9) rfl dX4_want_21 ?_
  refine lv_iconst (v := (1 : Int32)) hx hb dX4_want_24 (by decide) ?_
  refine lv_lload hx hb dX4_want_25 (lv_at hl 3 rfl) ?_
  refine va_last hx hb hK hP hD hS 2 1 rfl rfl (by unfold vp_in; decide) dX4_want_27 (fun H locs hP hD hS => ?_)
  have hP : va_P (dC, dI) vwCl (Wm g0 g1 g2 cB cC (sm10 (sm9 (sm8 u p0) u.2.2.2.2.2.1) (vp_updL (vp_updL u.2.2.2.2.2.2.2.2.2.2.1 (0 : Int32).toNatClampNeg p1) (1 : Int32).toNatClampNeg p2))) H := hP
  have hD : va_D A (Wm g0 g1 g2 cB cC (sm10 (sm9 (sm8 u p0) u.2.2.2.2.2.1) (vp_updL (vp_updL u.2.2.2.2.2.2.2.2.2.2.1 (0 : Int32).toNatClampNeg p1) (1 : Int32).toNatClampNeg p2))) := hD
  refine lv_aload_n hx hb dX4_want_28 rfl (lv_at hl 0 rfl) ?_
  refine va_get (D := (dC, dI)) (ci := 1) (v := .ref g2) (C := RX4) (T := TX4) (N := 13) hx hb hts inX4 hown hK hP 0 rfl rfl 10 (by decide) (hts _ qw_271) (fun _ h9 => h9) rfl dX4_want_29 ?_
  refine lv_iconst (v := (2 : Int32)) hx hb dX4_want_32 (by decide) ?_
  refine lv_lload hx hb dX4_want_33 (lv_at hl 4 rfl) ?_
  refine va_last hx hb hK hP hD hS 2 1 rfl rfl (by unfold vp_in; decide) dX4_want_35 (fun H locs hP hD hS => ?_)
  have hP : va_P (dC, dI) vwCl (Wm g0 g1 g2 cB cC (sm10 (sm9 (sm8 u p0) u.2.2.2.2.2.1) (vp_updL (vp_updL (vp_updL u.2.2.2.2.2.2.2.2.2.2.1 (0 : Int32).toNatClampNeg p1) (1 : Int32).toNatClampNeg p2) (2 : Int32).toNatClampNeg p3))) H := hP
  have hD : va_D A (Wm g0 g1 g2 cB cC (sm10 (sm9 (sm8 u p0) u.2.2.2.2.2.1) (vp_updL (vp_updL (vp_updL u.2.2.2.2.2.2.2.2.2.2.1 (0 : Int32).toNatClampNeg p1) (1 : Int32).toNatClampNeg p2) (2 : Int32).toNatClampNeg p3))) := hD
  refine lv_aload_n hx hb dX4_want_36 rfl (lv_at hl 0 rfl) ?_
  refine va_get (D := (dC, dI)) (ci := 1) (v := .ref g2) (C := RX4) (T := TX4) (N := 13) hx hb hts inX4 hown hK hP 0 rfl rfl 10 (by decide) (hts _ qw_271) (fun _ h9 => h9) rfl dX4_want_37 ?_
  refine lv_iconst (v := (3 : Int32)) hx hb dX4_want_40 (by decide) ?_
  refine lv_lload hx hb dX4_want_41 (lv_at hl 5 rfl) ?_
  refine va_last hx hb hK hP hD hS 2 1 rfl rfl (by unfold vp_in; decide) dX4_want_43 (fun H locs hP hD hS => ?_)
  have hP : va_P (dC, dI) vwCl (Wm g0 g1 g2 cB cC (sm10 (sm9 (sm8 u p0) u.2.2.2.2.2.1) (vp_updL (vp_updL (vp_updL (vp_updL u.2.2.2.2.2.2.2.2.2.2.1 (0 : Int32).toNatClampNeg p1) (1 : Int32).toNatClampNeg p2) (2 : Int32).toNatClampNeg p3) (3 : Int32).toNatClampNeg p4))) H := hP
  have hD : va_D A (Wm g0 g1 g2 cB cC (sm10 (sm9 (sm8 u p0) u.2.2.2.2.2.1) (vp_updL (vp_updL (vp_updL (vp_updL u.2.2.2.2.2.2.2.2.2.2.1 (0 : Int32).toNatClampNeg p1) (1 : Int32).toNatClampNeg p2) (2 : Int32).toNatClampNeg p3) (3 : Int32).toNatClampNeg p4))) := hD
  refine lv_aload_n hx hb dX4_want_44 rfl (lv_at hl 0 rfl) ?_
  refine va_get (D := (dC, dI)) (ci := 1) (v := .ref g2) (C := RX4) (T := TX4) (N := 13) hx hb hts inX4 hown hK hP 0 rfl rfl 10 (by decide) (hts _ qw_271) (fun _ h9 => h9) rfl dX4_want_45 ?_
  refine lv_iconst (v := (4 : Int32)) hx hb dX4_want_48 (by decide) ?_
  refine lv_iload hx hb dX4_want_49 (lv_at hl 6 rfl) ?_
  refine lv_i2l (v := p5.toInt64) hx hb dX4_want_51 rfl ?_
  refine va_last hx hb hK hP hD hS 2 1 rfl rfl (by unfold vp_in; decide) dX4_want_52 (fun H locs hP hD hS => ?_)
  have hP : va_P (dC, dI) vwCl (Wm g0 g1 g2 cB cC (sm10 (sm9 (sm8 u p0) u.2.2.2.2.2.1) (vp_updL (vp_updL (vp_updL (vp_updL (vp_updL u.2.2.2.2.2.2.2.2.2.2.1 (0 : Int32).toNatClampNeg p1) (1 : Int32).toNatClampNeg p2) (2 : Int32).toNatClampNeg p3) (3 : Int32).toNatClampNeg p4) (4 : Int32).toNatClampNeg p5.toInt64))) H := hP
  have hD : va_D A (Wm g0 g1 g2 cB cC (sm10 (sm9 (sm8 u p0) u.2.2.2.2.2.1) (vp_updL (vp_updL (vp_updL (vp_updL (vp_updL u.2.2.2.2.2.2.2.2.2.2.1 (0 : Int32).toNatClampNeg p1) (1 : Int32).toNatClampNeg p2) (2 : Int32).toNatClampNeg p3) (3 : Int32).toNatClampNeg p4) (4 : Int32).toNatClampNeg p5.toInt64))) := hD
  refine lv_iload_n hx hb dX4_want_53 rfl (lv_at hl 1 rfl) ?_
  have hF : f_X4_want u p0 p1 p2 p3 p4 p5 = (p0, (sm10 (sm9 (sm8 u p0) u.2.2.2.2.2.1) (vp_updL (vp_updL (vp_updL (vp_updL (vp_updL u.2.2.2.2.2.2.2.2.2.2.1 (0 : Int32).toNatClampNeg p1) (1 : Int32).toNatClampNeg p2) (2 : Int32).toNatClampNeg p3) (3 : Int32).toNatClampNeg p4) (4 : Int32).toNatClampNeg p5.toInt64))) := rfl
  exact W.iret (v := p0) hx hb hr (fun t ht hW => ⟨⟨p0, (sm10 (sm9 (sm8 u p0) u.2.2.2.2.2.1) (vp_updL (vp_updL (vp_updL (vp_updL (vp_updL u.2.2.2.2.2.2.2.2.2.2.1 (0 : Int32).toNatClampNeg p1) (1 : Int32).toNatClampNeg p2) (2 : Int32).toNatClampNeg p3) (3 : Int32).toNatClampNeg p4) (4 : Int32).toNatClampNeg p5.toInt64)), rfl, ⟨(congrArg Prod.fst hF).symm, (congrArg Prod.snd hF).symm⟩, by rw [ht]; exact hP, va_K.moved hW.alike hK, hD⟩, hS.F ht⟩) hS.2.2 dX4_want_54
noncomputable def f_X4_done_ (u : SmT) (p0 : Int32) (p1 : Int64) : Int32 × SmT :=
  ((0 : Int32), (sm3 (sm2 (f_X4_put u p0 p1) ((f_X4_put u p0 p1).2.2.1 + (f_X4_put u p0 p1).2.2.2.2.2.1.toInt64)) ((f_X4_put u p0 p1).2.2.2.1 + (1 : Int64))))
set_option maxHeartbeats 4000000 in
set_option maxRecDepth 100000 in
theorem mt_X4_done_ (l : Launch) (dC : Nat → ClassId) (dI : Nat → Nat → Nat) (g0 g1 g2 : Nat) (cB cC : ClassId) (sz : Nat) (u : SmT) (p0 : Int32) (p1 : Int64) (hd : p0 ≤ (31 : Int32)) : Met l yX4_done_ wsX4_done_ ({ frames := 1, cells := 0, slots := 0, locals := 23 }) (wr_P [.ref g0, .int p0, .long p1] (dC, dI) vwCl (Wm g0 g1 g2 cB cC u) [(cB, .long), (cC, .long)] sz) (va_Qi (fun r v => r = (f_X4_done_ u p0 p1).1 ∧ v = (f_X4_done_ u p0 p1).2) (wr_B (dC, dI) vwCl [(cB, .long), (cC, .long)] (va_A (Wm g0 g1 g2 cB cC u) sz) (Wm g0 g1 g2 cB cC)) (va_A (Wm g0 g1 g2 cB cC u) sz)) 0 0 (va_A (Wm g0 g1 g2 cB cC u) sz) := by
  refine Met.ofW (cc := cX4_done_) (maxL := 4) (ret := (some .int)) (by decide) rfl ?_
  intro p e s m args below meth c s₁ B hml hv
  obtain ⟨rfl, hsz, hP, hK, hD0⟩ := hv
  have hx := B.exec
  have hb := B.bytes
  have hr := B.returns
  have hts0 := atoms_spec (ws := wsX4_done_) B.pre
  have hts := fun (w : Cond) (h : w ∈ lw_G) => hts0 w (List.mem_cons_of_mem _ h)
  have hown : s.vm.findClass RX4 = some m.cls := findClass_of_methodNamed B.named
  have hlocks := B.notSynchronized
  subst hsz
  have hD := hD0.self (sz := s.heap.size)
  generalize hAe : va_A (Wm g0 g1 g2 cB cC u) s.heap.size = A at hD ⊢
  have hA : ∀ q : Nat, s.heap.size ≤ q → A q := fun q h => by rw [← hAe]; exact Or.inr h
  have hS : va_S A s.heap s.heap [] := va_S.rf
  have hl := lv_entry ([.ref g0, .int p0, .long p1]) (n := 4) (Nat.le_of_ble_eq_true rfl)
  rw [lg_entry_eq]
  generalize (lg_sl ([.ref g0, .int p0, .long p1]) ++ List.replicate (4 - (lg_sl ([.ref g0, .int p0, .long p1])).length) Slot.unset).toArray = ls at hl ⊢
  have hl : lv_has ls 4 [(0, .ref g0), (1, .int p0), (2, .long p1)] := hl
  refine lv_aload_n hx hb dX4_done__0 rfl (lv_at hl 0 rfl) ?_
  refine lv_iload_n hx hb dX4_done__1 rfl (lv_at hl 1 rfl) ?_
  refine lv_lload_n hx hb dX4_done__2 rfl (lv_at hl 2 rfl) ?_
  refine wr_callv (wr := []) (va_runV (As := [.int p0, .long p1]) (rest := []) ⟨hx, hb, hml, hown, hts⟩ (mt_X4_put l dC dI g0 g1 g2 cB cC s.heap.size u p0 p1 hd) (cwV 2 hts gX4_27_X4_put rfl rfl rfl (by decide +kernel) ⟨Nat.le_of_ble_eq_true rfl, Nat.le_of_ble_eq_true rfl⟩) (wr_V hK hP hD (ci := 1) (q0 := 0) rfl rfl rfl) rfl rfl hl.1 rfl (lv_room (Nat.le_of_ble_eq_true rfl)) dX4_done__3 ⟨Nat.le_of_ble_eq_true rfl, Nat.le_of_ble_eq_true rfl⟩) hS hP hD hA [0, 1, 2] [] rfl rfl (by decide) (by decide) (fun v_ H locs hw hP hD hS => ?_)
  subst hw
  refine W.eq (g2 := F0 m 6 ls []) rfl ?_
  have hP : va_P (dC, dI) vwCl (Wm g0 g1 g2 cB cC (f_X4_put u p0 p1)) H := hP
  have hD : va_D A (Wm g0 g1 g2 cB cC (f_X4_put u p0 p1)) := hD
  refine lv_aload_n hx hb dX4_done__6 rfl (lv_at hl 0 rfl) ?_
  refine lv_aload_n hx hb dX4_done__7 rfl (lv_at hl 0 rfl) ?_
  refine va_get (D := (dC, dI)) (ci := 1) (v := .long (f_X4_put u p0 p1).2.2.1) (C := RX4) (T := TX4) (N := 13) hx hb hts inX4 hown hK hP 0 rfl rfl 2 (by decide) (hts _ qw_281) (fun _ h9 => h9) rfl dX4_done__8 ?_
  refine lv_aload_n hx hb dX4_done__11 rfl (lv_at hl 0 rfl) ?_
  refine va_get (D := (dC, dI)) (ci := 1) (v := .int (f_X4_put u p0 p1).2.2.2.2.2.1) (C := RX4) (T := TX4) (N := 13) hx hb hts inX4 hown hK hP 0 rfl rfl 5 (by decide) (hts _ qw_284) (fun _ h9 => h9) rfl dX4_done__12 ?_
  refine lv_i2l (v := (f_X4_put u p0 p1).2.2.2.2.2.1.toInt64) hx hb dX4_done__15 rfl ?_
  refine lv_ladd hx hb dX4_done__16 ?_
  refine va_put (D := (dC, dI)) (ci := 1) (v := .long ((f_X4_put u p0 p1).2.2.1 + (f_X4_put u p0 p1).2.2.2.2.2.1.toInt64)) (ty := .long) (C := RX4) (T := TX4) (N := 13) hx hb hts inX4 tyX4 tyX4_ok nmX4 hown hK hP hD hS 0 rfl rfl 2 (by decide) (hts _ qw_281) (fun _ h9 => h9) rfl (by decide +kernel) rfl rfl (Nat.le_of_ble_eq_true rfl) dX4_done__17 (fun H locs hP hD hS => ?_)
  have hP : va_P (dC, dI) vwCl (Wm g0 g1 g2 cB cC (sm2 (f_X4_put u p0 p1) ((f_X4_put u p0 p1).2.2.1 + (f_X4_put u p0 p1).2.2.2.2.2.1.toInt64))) H := hP
  have hD : va_D A (Wm g0 g1 g2 cB cC (sm2 (f_X4_put u p0 p1) ((f_X4_put u p0 p1).2.2.1 + (f_X4_put u p0 p1).2.2.2.2.2.1.toInt64))) := hD
  refine lv_aload_n hx hb dX4_done__20 rfl (lv_at hl 0 rfl) ?_
  refine lv_dup hx hb dX4_done__21 rfl ?_
  refine va_get (D := (dC, dI)) (ci := 1) (v := .long (f_X4_put u p0 p1).2.2.2.1) (C := RX4) (T := TX4) (N := 13) hx hb hts inX4 hown hK hP 0 rfl rfl 3 (by decide) (hts _ qw_283) (fun _ h9 => h9) rfl dX4_done__22 ?_
  refine lv_lconst (v := (1 : Int64)) hx hb dX4_done__25 (by decide) ?_
  refine lv_ladd hx hb dX4_done__26 ?_
  refine va_put (D := (dC, dI)) (ci := 1) (v := .long ((f_X4_put u p0 p1).2.2.2.1 + (1 : Int64))) (ty := .long) (C := RX4) (T := TX4) (N := 13) hx hb hts inX4 tyX4 tyX4_ok nmX4 hown hK hP hD hS 0 rfl rfl 3 (by decide) (hts _ qw_283) (fun _ h9 => h9) rfl (by decide +kernel) rfl rfl (Nat.le_of_ble_eq_true rfl) dX4_done__27 (fun H locs hP hD hS => ?_)
  have hP : va_P (dC, dI) vwCl (Wm g0 g1 g2 cB cC (sm3 (sm2 (f_X4_put u p0 p1) ((f_X4_put u p0 p1).2.2.1 + (f_X4_put u p0 p1).2.2.2.2.2.1.toInt64)) ((f_X4_put u p0 p1).2.2.2.1 + (1 : Int64)))) H := hP
  have hD : va_D A (Wm g0 g1 g2 cB cC (sm3 (sm2 (f_X4_put u p0 p1) ((f_X4_put u p0 p1).2.2.1 + (f_X4_put u p0 p1).2.2.2.2.2.1.toInt64)) ((f_X4_put u p0 p1).2.2.2.1 + (1 : Int64)))) := hD
  refine lv_iconst (v := (0 : Int32)) hx hb dX4_done__30 (by decide) ?_
  have hF : f_X4_done_ u p0 p1 = ((0 : Int32), (sm3 (sm2 (f_X4_put u p0 p1) ((f_X4_put u p0 p1).2.2.1 + (f_X4_put u p0 p1).2.2.2.2.2.1.toInt64)) ((f_X4_put u p0 p1).2.2.2.1 + (1 : Int64)))) := rfl
  exact W.iret (v := (0 : Int32)) hx hb hr (fun t ht hW => ⟨⟨(0 : Int32), (sm3 (sm2 (f_X4_put u p0 p1) ((f_X4_put u p0 p1).2.2.1 + (f_X4_put u p0 p1).2.2.2.2.2.1.toInt64)) ((f_X4_put u p0 p1).2.2.2.1 + (1 : Int64))), rfl, ⟨(congrArg Prod.fst hF).symm, (congrArg Prod.snd hF).symm⟩, by rw [ht]; exact hP, va_K.moved hW.alike hK, hD⟩, hS.F ht⟩) hS.2.2 dX4_done__31
