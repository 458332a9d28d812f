def f_X3_put (u : ScT) (p0 : Int32) (p1 : Int64) : ScT :=
  if p0 = 0 then
    u
  else if (f_X3_isRegister p0) = 0 then
    u
  else
    (sc0 u (vp_updL u.1 p0.toNatClampNeg p1))
set_option maxHeartbeats 4000000 in
set_option maxRecDepth 100000 in
theorem mt_X3_put (l : Launch) (dC : Nat → ClassId) (dI : Nat → Nat → Nat) (h0 h1 : Nat) (cA : ClassId) (sz : Nat) (u : ScT) (p0 : Int32) (p1 : Int64) : Met l yX3_put wsX3_put ({ frames := 1, cells := 0, slots := 0, locals := 20 }) (wr_P [.ref h0, .int p0, .long p1] (dC, dI) vwCl (Wc h0 h1 cA u) [(cA, .long)] sz) (va_Qv (fun v => v = f_X3_put u p0 p1) (wr_B (dC, dI) vwCl [(cA, .long)] (va_A (Wc h0 h1 cA u) sz) (Wc h0 h1 cA)) (va_A (Wc h0 h1 cA u) sz)) 0 0 (va_A (Wc h0 h1 cA u) sz) := by
  refine Met.ofW (cc := cX3_put) (maxL := 4) (ret := none) (by decide) rfl ?_
  intro p e s m args below meth c s₁ B hml hv
  obtain ⟨rfl, hsz, hP, hK, hD0⟩ := hv
  have hx := B.exec
  have hb := B.bytes
  have hr := B.returns
  have hts0 := atoms_spec (ws := wsX3_put) B.pre
  have hts := fun (w : Cond) (h : w ∈ lw_G) => hts0 w (List.mem_cons_of_mem _ h)
  have hown : s.vm.findClass RX3 = some m.cls := findClass_of_methodNamed B.named
  have hlocks := B.notSynchronized
  subst hsz
  have hD := hD0.self (sz := s.heap.size)
  generalize hAe : va_A (Wc h0 h1 cA u) s.heap.size = A at hD ⊢
  have hA : ∀ q : Nat, s.heap.size ≤ q → A q := fun q h => by rw [← hAe]; exact Or.inr h
  have hS : va_S A s.heap s.heap [] := va_S.rf
  have hl := lv_entry ([.ref h0, .int p0, .long p1]) (n := 4) (Nat.le_of_ble_eq_true rfl)
  rw [lg_entry_eq]
  generalize (lg_sl ([.ref h0, .int p0, .long p1]) ++ List.replicate (4 - (lg_sl ([.ref h0, .int p0, .long p1])).length) Slot.unset).toArray = ls at hl ⊢
  have hl : lv_has ls 4 [(0, .ref h0), (1, .int p0), (2, .long p1)] := hl
  refine lv_iload_n hx hb dX3_put_0 rfl (lv_at hl 1 rfl) ?_
  refine lv_if_eq (tgt := 18) hx hb dX3_put_1 (by decide) (fun c1 => ?_) (fun c1 => ?_)
  · have hF : f_X3_put u p0 p1 = u := by unfold f_X3_put; rw [if_pos c1]
    exact W.vret hx hb hr (fun t ht hW => ⟨⟨u, rfl, hF.symm, by rw [ht]; exact hP, va_K.moved hW.alike hK, hD⟩, hS.F ht⟩) hS.2.2 dX3_put_18
  · refine lv_iload_n hx hb dX3_put_4 rfl (lv_at hl 1 rfl) ?_
    refine W.callV (W.runS (As := [.int p0]) (rest := []) ⟨hx, hb, hml, hown, hts⟩ (mt_X3_isRegister l p0) (va_cwS 1 hts gX3_17_X3_isRegister rfl rfl rfl (by decide +kernel) ⟨Nat.le_of_ble_eq_true rfl, Nat.le_of_ble_eq_true rfl⟩) preEq rfl rfl hl.1 rfl (lv_room (Nat.le_of_ble_eq_true rfl)) dX3_put_5 ⟨Nat.le_of_ble_eq_true rfl, Nat.le_of_ble_eq_true rfl⟩) ?_
    refine W.eq (g2 := F0 m 8 ls [.int (f_X3_isRegister p0)]) rfl ?_
    refine lv_if_eq (tgt := 18) hx hb dX3_put_8 (by decide) (fun c2 => ?_) (fun c2 => ?_)
    · have hF : f_X3_put u p0 p1 = u := by unfold f_X3_put; rw [if_neg c1, if_pos c2]
      exact W.vret hx hb hr (fun t ht hW => ⟨⟨u, rfl, hF.symm, by rw [ht]; exact hP, va_K.moved hW.alike hK, hD⟩, hS.F ht⟩) hS.2.2 dX3_put_18
    · refine lv_aload_n hx hb dX3_put_11 rfl (lv_at hl 0 rfl) ?_
      refine va_get (D := (dC, dI)) (ci := 0) (v := .ref h1) (C := RX3) (T := TX3) (N := 10) hx hb hts inX3 hown hK hP 0 rfl rfl 0 (by decide) (hts _ qw_50) (fun _ h9 => h9) rfl dX3_put_12 ?_
      refine lv_iload_n hx hb dX3_put_15 rfl (lv_at hl 1 rfl) ?_
      refine lv_lload_n hx hb dX3_put_16 rfl (lv_at hl 2 rfl) ?_
      refine va_last hx hb hK hP hD hS 1 0 rfl rfl (bd_reg _ c2) dX3_put_17 (fun H locs hP hD hS => ?_)
      have hP : va_P (dC, dI) vwCl (Wc h0 h1 cA (sc0 u (vp_updL u.1 p0.toNatClampNeg p1))) H := hP
      have hD : va_D A (Wc h0 h1 cA (sc0 u (vp_updL u.1 p0.toNatClampNeg p1))) := hD
      have hF : f_X3_put u p0 p1 = (sc0 u (vp_updL u.1 p0.toNatClampNeg p1)) := by unfold f_X3_put; rw [if_neg c1, if_neg c2]
      exact W.vret hx hb hr (fun t ht hW => ⟨⟨(sc0 u (vp_updL u.1 p0.toNatClampNeg p1)), rfl, hF.symm, by rw [ht]; exact hP, va_K.moved hW.alike hK, hD⟩, hS.F ht⟩) hS.2.2 dX3_put_18

def f_X3_complete (u : ScT) (p0 : Int64) : Int32 × ScT :=
  ((0 : Int32), (sc2 (sc1 u p0) (u.2.2.1 + (1 : Int64))))
set_option maxHeartbeats 4000000 in
set_option maxRecDepth 100000 in
theorem mt_X3_complete (l : Launch) (dC : Nat → ClassId) (dI : Nat → Nat → Nat) (h0 h1 : Nat) (cA : ClassId) (sz : Nat) (u : ScT) (p0 : Int64) : Met l yX3_complete wsX3_complete ({ frames := 0, cells := 0, slots := 0, locals := 0 }) (wr_P [.ref h0, .long p0] (dC, dI) vwCl (Wc h0 h1 cA u) [(cA, .long)] sz) (va_Qi (fun r v => r = (f_X3_complete u p0).1 ∧ v = (f_X3_complete u p0).2) (wr_B (dC, dI) vwCl [(cA, .long)] (va_A (Wc h0 h1 cA u) sz) (Wc h0 h1 cA)) (va_A (Wc h0 h1 cA u) sz)) 0 0 (va_A (Wc h0 h1 cA u) sz) := by
  refine Met.ofW (cc := cX3_complete) (maxL := 3) (ret := (some .int)) (by decide) rfl ?_
  intro p e s m args below meth c s₁ B hml hv
  obtain ⟨rfl, hsz, hP, hK, hD0⟩ := hv
  have hx := B.exec
  have hb := B.bytes
  have hr := B.returns
  have hts0 := atoms_spec (ws := wsX3_complete) B.pre
  have hts := fun (w : Cond) (h : w ∈ lw_G) => hts0 w (List.mem_cons_of_mem _ h)
  have hown : s.vm.findClass RX3 = some m.cls := findClass_of_methodNamed B.named
  have hlocks := B.notSynchronized
  subst hsz
  have hD := hD0.self (sz := s.heap.size)
  generalize hAe : va_A (Wc h0 h1 cA u) s.heap.size = A at hD ⊢
  have hA : ∀ q : Nat, s.heap.size ≤ q → A q := fun q h => by rw [← hAe]; exact Or.inr h
  have hS : va_S A s.heap s.heap [] := va_S.rf
  have hl := lv_entry ([.ref h0, .long p0]) (n := 3) (Nat.le_of_ble_eq_true rfl)
  rw [lg_entry_eq]
  generalize (lg_sl ([.ref h0, .long p0]) ++ List.replicate (3 - (lg_sl ([.ref h0, .long p0])).length) Slot.unset).toArray = ls at hl ⊢
  have hl : lv_has ls 3 [(0, .ref h0), (1, .long p0)] := hl
  refine lv_aload_n hx hb dX3_complete_0 rfl (lv_at hl 0 rfl) ?_
  refine lv_lload_n hx hb dX3_complete_1 rfl (lv_at hl 1 rfl) ?_
  refine va_put (D := (dC, dI)) (ci := 0) (v := .long p0) (ty := .long) (C := RX3) (T := TX3) (N := 10) hx hb hts inX3 tyX3 tyX3_ok nmX3 hown hK hP hD hS 0 rfl rfl 1 (by decide) (hts _ qw_64) (fun _ h9 => h9) rfl (by decide +kernel) rfl rfl (Nat.le_of_ble_eq_true rfl) dX3_complete_2 (fun H locs hP hD hS => ?_)
  have hP : va_P (dC, dI) vwCl (Wc h0 h1 cA (sc1 u p0)) H := hP
  have hD : va_D A (Wc h0 h1 cA (sc1 u p0)) := hD
  refine lv_aload_n hx hb dX3_complete_5 rfl (lv_at hl 0 rfl) ?_
  refine lv_dup hx hb dX3_complete_6 rfl ?_
  refine va_get (D := (dC, dI)) (ci := 0) (v := .long u.2.2.1) (C := RX3) (T := TX3) (N := 10) hx hb hts inX3 hown hK hP 0 rfl rfl 2 (by decide) (hts _ qw_65) (fun _ h9 => h9) rfl dX3_complete_7 ?_
  refine lv_lconst (v := (1 : Int64)) hx hb dX3_complete_10 (by decide) ?_
  refine lv_ladd hx hb dX3_complete_11 ?_
  refine va_put (D := (dC, dI)) (ci := 0) (v := .long (u.2.2.1 + (1 : Int64))) (ty := .long) (C := RX3) (T := TX3) (N := 10) hx hb hts inX3 tyX3 tyX3_ok nmX3 hown hK hP hD hS 0 rfl rfl 2 (by decide) (hts _ qw_65) (fun _ h9 => h9) rfl (by decide +kernel) rfl rfl (Nat.le_of_ble_eq_true rfl) dX3_complete_12 (fun H locs hP hD hS => ?_)
  have hP : va_P (dC, dI) vwCl (Wc h0 h1 cA (sc2 (sc1 u p0) (u.2.2.1 + (1 : Int64)))) H := hP
  have hD : va_D A (Wc h0 h1 cA (sc2 (sc1 u p0) (u.2.2.1 + (1 : Int64)))) := hD
  refine lv_iconst (v := (0 : Int32)) hx hb dX3_complete_15 (by decide) ?_
  have hF : f_X3_complete u p0 = ((0 : Int32), (sc2 (sc1 u p0) (u.2.2.1 + (1 : Int64)))) := rfl
  exact W.iret (v := (0 : Int32)) hx hb hr (fun t ht hW => ⟨⟨(0 : Int32), (sc2 (sc1 u p0) (u.2.2.1 + (1 : Int64))), rfl, ⟨(congrArg Prod.fst hF).symm, (congrArg Prod.snd hF).symm⟩, by rw [ht]; exact hP, va_K.moved hW.alike hK, hD⟩, hS.F ht⟩) hS.2.2 dX3_complete_16

def f_X3_give (u : ScT) (p0 : Int32) (p1 : Int64) : Int32 × ScT :=
  ((f_X3_complete (f_X3_put u (f_X2_d p0) p1) ((f_X3_put u (f_X2_d p0) p1).2.1 + (f_X3_put u (f_X2_d p0) p1).2.2.2.1.toInt64)).1, (f_X3_complete (f_X3_put u (f_X2_d p0) p1) ((f_X3_put u (f_X2_d p0) p1).2.1 + (f_X3_put u (f_X2_d p0) p1).2.2.2.1.toInt64)).2)
set_option maxHeartbeats 4000000 in
set_option maxRecDepth 100000 in
theorem mt_X3_give (l : Launch) (dC : Nat → ClassId) (dI : Nat → Nat → Nat) (h0 h1 : Nat) (cA : ClassId) (sz : Nat) (u : ScT) (p0 : Int32) (p1 : Int64) : Met l yX3_give wsX3_give ({ frames := 2, cells := 0, slots := 0, locals := 43 }) (wr_P [.ref h0, .int p0, .long p1] (dC, dI) vwCl (Wc h0 h1 cA u) [(cA, .long)] sz) (va_Qi (fun r v => r = (f_X3_give u p0 p1).1 ∧ v = (f_X3_give u p0 p1).2) (wr_B (dC, dI) vwCl [(cA, .long)] (va_A (Wc h0 h1 cA u) sz) (Wc h0 h1 cA)) (va_A (Wc h0 h1 cA u) sz)) 0 0 (va_A (Wc h0 h1 cA u) sz) := by
  refine Met.ofW (cc := cX3_give) (maxL := 4) (ret := (some .int)) (by decide) rfl ?_
  intro p e s m args below meth c s₁ B hml hv
  obtain ⟨rfl, hsz, hP, hK, hD0⟩ := hv
  have hx := B.exec
  have hb := B.bytes
  have hr := B.returns
  have hts0 := atoms_spec (ws := wsX3_give) B.pre
  have hts := fun (w : Cond) (h : w ∈ lw_G) => hts0 w (List.mem_cons_of_mem _ h)
  have hown : s.vm.findClass RX3 = some m.cls := findClass_of_methodNamed B.named
  have hlocks := B.notSynchronized
  subst hsz
  have hD := hD0.self (sz := s.heap.size)
  generalize hAe : va_A (Wc h0 h1 cA u) s.heap.size = A at hD ⊢
  have hA : ∀ q : Nat, s.heap.size ≤ q → A q := fun q h => by rw [← hAe]; exact Or.inr h
  have hS : va_S A s.heap s.heap [] := va_S.rf
  have hl := lv_entry ([.ref h0, .int p0, .long p1]) (n := 4) (Nat.le_of_ble_eq_true rfl)
  rw [lg_entry_eq]
  generalize (lg_sl ([.ref h0, .int p0, .long p1]) ++ List.replicate (4 - (lg_sl ([.ref h0, .int p0, .long p1])).length) Slot.unset).toArray = ls at hl ⊢
  have hl : lv_has ls 4 [(0, .ref h0), (1, .int p0), (2, .long p1)] := hl
  refine lv_aload_n hx hb dX3_give_0 rfl (lv_at hl 0 rfl) ?_
  refine lv_iload_n hx hb dX3_give_1 rfl (lv_at hl 1 rfl) ?_
  refine W.callV (W.runS (As := [.int p0]) (rest := [.ref h0]) ⟨hx, hb, hml, hown, hts⟩ (mt_X2_d l p0) (va_cwS 1 hts gX3_105_X2_d rfl rfl rfl (by decide +kernel) ⟨Nat.le_of_ble_eq_true rfl, Nat.le_of_ble_eq_true rfl⟩) preEq rfl rfl hl.1 rfl (lv_room (Nat.le_of_ble_eq_true rfl)) dX3_give_2 ⟨Nat.le_of_ble_eq_true rfl, Nat.le_of_ble_eq_true rfl⟩) ?_
  refine W.eq (g2 := F0 m 5 ls [.int (f_X2_d p0), .ref h0]) rfl ?_
  refine lv_lload_n hx hb dX3_give_5 rfl (lv_at hl 2 rfl) ?_
  refine wr_callv (wr := []) (va_runV (As := [.int (f_X2_d p0), .long p1]) (rest := []) ⟨hx, hb, hml, hown, hts⟩ (mt_X3_put l dC dI h0 h1 cA s.heap.size u (f_X2_d p0) p1) (cwV 2 hts gX3_28_X3_put rfl rfl rfl (by decide +kernel) ⟨Nat.le_of_ble_eq_true rfl, Nat.le_of_ble_eq_true rfl⟩) (wr_V hK hP hD (ci := 0) (q0 := 0) rfl rfl rfl) rfl rfl hl.1 rfl (lv_room (Nat.le_of_ble_eq_true rfl)) dX3_give_6 ⟨Nat.le_of_ble_eq_true rfl, Nat.le_of_ble_eq_true rfl⟩) hS hP hD hA [0, 1] [] rfl rfl (by decide) (by decide) (fun v_ H locs hw hP hD hS => ?_)
  subst hw
  refine W.eq (g2 := F0 m 9 ls []) rfl ?_
  have hP : va_P (dC, dI) vwCl (Wc h0 h1 cA (f_X3_put u (f_X2_d p0) p1)) H := hP
  have hD : va_D A (Wc h0 h1 cA (f_X3_put u (f_X2_d p0) p1)) := hD
  refine lv_aload_n hx hb dX3_give_9 rfl (lv_at hl 0 rfl) ?_
  refine lv_aload_n hx hb dX3_give_10 rfl (lv_at hl 0 rfl) ?_
  refine va_get (D := (dC, dI)) (ci := 0) (v := .long (f_X3_put u (f_X2_d p0) p1).2.1) (C := RX3) (T := TX3) (N := 10) hx hb hts inX3 hown hK hP 0 rfl rfl 1 (by decide) (hts _ qw_64) (fun _ h9 => h9) rfl dX3_give_11 ?_
  refine lv_aload_n hx hb dX3_give_14 rfl (lv_at hl 0 rfl) ?_
  refine va_get (D := (dC, dI)) (ci := 0) (v := .int (f_X3_put u (f_X2_d p0) p1).2.2.2.1) (C := RX3) (T := TX3) (N := 10) hx hb hts inX3 hown hK hP 0 rfl rfl 3 (by decide) (hts _ qw_77) (fun _ h9 => h9) rfl dX3_give_15 ?_
  refine lv_i2l (v := (f_X3_put u (f_X2_d p0) p1).2.2.2.1.toInt64) hx hb dX3_give_18 rfl ?_
  refine lv_ladd hx hb dX3_give_19 ?_
  refine wr_calli (wr := []) (va_runV (As := [.long ((f_X3_put u (f_X2_d p0) p1).2.1 + (f_X3_put u (f_X2_d p0) p1).2.2.2.1.toInt64)]) (rest := []) ⟨hx, hb, hml, hown, hts⟩ (mt_X3_complete l dC dI h0 h1 cA H.size (f_X3_put u (f_X2_d p0) p1) ((f_X3_put u (f_X2_d p0) p1).2.1 + (f_X3_put u (f_X2_d p0) p1).2.2.2.1.toInt64)) (cwV 1 hts gX3_141_X3_complete rfl rfl rfl (by decide +kernel) ⟨Nat.le_of_ble_eq_true rfl, Nat.le_of_ble_eq_true rfl⟩) (wr_V hK hP hD (ci := 0) (q0 := 0) rfl rfl rfl) rfl rfl hl.1 rfl (lv_room (Nat.le_of_ble_eq_true rfl)) dX3_give_20 ⟨Nat.le_of_ble_eq_true rfl, Nat.le_of_ble_eq_true rfl⟩) hS hP hD hA [0, 1] [] rfl rfl (by decide) (by decide) (fun r_ v_ H locs hw hP hD hS => ?_)
  obtain ⟨rfl, rfl⟩ := hw
  refine W.eq (g2 := F0 m 23 ls [.int (f_X3_complete (f_X3_put u (f_X2_d p0) p1) ((f_X3_put u (f_X2_d p0) p1).2.1 + (f_X3_put u (f_X2_d p0) p1).2.2.2.1.toInt64)).1]) rfl ?_
  have hP : va_P (dC, dI) vwCl (Wc h0 h1 cA (f_X3_complete (f_X3_put u (f_X2_d p0) p1) ((f_X3_put u (f_X2_d p0) p1).2.1 + (f_X3_put u (f_X2_d p0) p1).2.2.2.1.toInt64)).2) H := hP
  have hD : va_D A (Wc h0 h1 cA (f_X3_complete (f_X3_put u (f_X2_d p0) p1) ((f_X3_put u (f_X2_d p0) p1).2.1 + (f_X3_put u (f_X2_d p0) p1).2.2.2.1.toInt64)).2) := hD
  have hF : f_X3_give u p0 p1 = ((f_X3_complete (f_X3_put u (f_X2_d p0) p1) ((f_X3_put u (f_X2_d p0) p1).2.1 + (f_X3_put u (f_X2_d p0) p1).2.2.2.1.toInt64)).1, (f_X3_complete (f_X3_put u (f_X2_d p0) p1) ((f_X3_put u (f_X2_d p0) p1).2.1 + (f_X3_put u (f_X2_d p0) p1).2.2.2.1.toInt64)).2) := rfl
  exact W.iret (v := (f_X3_complete (f_X3_put u (f_X2_d p0) p1) ((f_X3_put u (f_X2_d p0) p1).2.1 + (f_X3_put u (f_X2_d p0) p1).2.2.2.1.toInt64)).1) hx hb hr (fun t ht hW => ⟨⟨(f_X3_complete (f_X3_put u (f_X2_d p0) p1) ((f_X3_put u (f_X2_d p0) p1).2.1 + (f_X3_put u (f_X2_d p0) p1).2.2.2.1.toInt64)).1, (f_X3_complete (f_X3_put u (f_X2_d p0) p1) ((f_X3_put u (f_X2_d p0) p1).2.1 + (f_X3_put u (f_X2_d p0) p1).2.2.2.1.toInt64)).2, rfl, ⟨(congrArg Prod.fst hF).symm, (congrArg Prod.snd hF).symm⟩, by rw [ht]; exact hP, va_K.moved hW.alike hK, hD⟩, hS.F ht⟩) hS.2.2 dX3_give_23

def f_X3_link (u : ScT) (p0 : Int32) (p1 : Int64) : Int32 × ScT :=
  ((f_X3_complete (f_X3_put u (f_X2_d p0) (u.2.1 + u.2.2.2.1.toInt64)) p1).1, (f_X3_complete (f_X3_put u (f_X2_d p0) (u.2.1 + u.2.2.2.1.toInt64)) p1).2)
set_option maxHeartbeats 4000000 in
set_option maxRecDepth 100000 in
theorem mt_X3_link (l : Launch) (dC : Nat → ClassId) (dI : Nat → Nat → Nat) (h0 h1 : Nat) (cA : ClassId) (sz : Nat) (u : ScT) (p0 : Int32) (p1 : Int64) : Met l yX3_link wsX3_link ({ frames := 2, cells := 0, slots := 0, locals := 43 }) (wr_P [.ref h0, .int p0, .long p1] (dC, dI) vwCl (Wc h0 h1 cA u) [(cA, .long)] sz) (va_Qi (fun r v => r = (f_X3_link u p0 p1).1 ∧ v = (f_X3_link u p0 p1).2) (wr_B (dC, dI) vwCl [(cA, .long)] (va_A (Wc h0 h1 cA u) sz) (Wc h0 h1 cA)) (va_A (Wc h0 h1 cA u) sz)) 0 0 (va_A (Wc h0 h1 cA u) sz) := by
  refine Met.ofW (cc := cX3_link) (maxL := 4) (ret := (some .int)) (by decide) rfl ?_
  intro p e s m args below meth c s₁ B hml hv
  obtain ⟨rfl, hsz, hP, hK, hD0⟩ := hv
  have hx := B.exec
  have hb := B.bytes
  have hr := B.returns
  have hts0 := atoms_spec (ws := wsX3_link) B.pre
  have hts := fun (w : Cond) (h : w ∈ lw_G) => hts0 w (List.mem_cons_of_mem _ h)
  have hown : s.vm.findClass RX3 = some m.cls := findClass_of_methodNamed B.named
  have hlocks := B.notSynchronized
  subst hsz
  have hD := hD0.self (sz := s.heap.size)
  generalize hAe : va_A (Wc h0 h1 cA u) s.heap.size = A at hD ⊢
  have hA : ∀ q : Nat, s.heap.size ≤ q → A q := fun q h => by rw [← hAe]; exact Or.inr h
  have hS : va_S A s.heap s.heap [] := va_S.rf
  have hl := lv_entry ([.ref h0, .int p0, .long p1]) (n := 4) (Nat.le_of_ble_eq_true rfl)
  rw [lg_entry_eq]
  generalize (lg_sl ([.ref h0, .int p0, .long p1]) ++ List.replicate (4 - (lg_sl ([.ref h0, .int p0, .long p1])).length) Slot.unset).toArray = ls at hl ⊢
  have hl : lv_has ls 4 [(0, .ref h0), (1, .int p0), (2, .long p1)] := hl
  refine lv_aload_n hx hb dX3_link_0 rfl (lv_at hl 0 rfl) ?_
  refine lv_iload_n hx hb dX3_link_1 rfl (lv_at hl 1 rfl) ?_
  refine W.callV (W.runS (As := [.int p0]) (rest := [.ref h0]) ⟨hx, hb, hml, hown, hts⟩ (mt_X2_d l p0) (va_cwS 1 hts gX3_105_X2_d rfl rfl rfl (by decide +kernel) ⟨Nat.le_of_ble_eq_true rfl, Nat.le_of_ble_eq_true rfl⟩) preEq rfl rfl hl.1 rfl (lv_room (Nat.le_of_ble_eq_true rfl)) dX3_link_2 ⟨Nat.le_of_ble_eq_true rfl, Nat.le_of_ble_eq_true rfl⟩) ?_
  refine W.eq (g2 := F0 m 5 ls [.int (f_X2_d p0), .ref h0]) rfl ?_
  refine lv_aload_n hx hb dX3_link_5 rfl (lv_at hl 0 rfl) ?_
  refine va_get (D := (dC, dI)) (ci := 0) (v := .long u.2.1) (C := RX3) (T := TX3) (N := 10) hx hb hts inX3 hown hK hP 0 rfl rfl 1 (by decide) (hts _ qw_64) (fun _ h9 => h9) rfl dX3_link_6 ?_
  refine lv_aload_n hx hb dX3_link_9 rfl (lv_at hl 0 rfl) ?_
  refine va_get (D := (dC, dI)) (ci := 0) (v := .int u.2.2.2.1) (C := RX3) (T := TX3) (N := 10) hx hb hts inX3 hown hK hP 0 rfl rfl 3 (by decide) (hts _ qw_77) (fun _ h9 => h9) rfl dX3_link_10 ?_
  refine lv_i2l (v := u.2.2.2.1.toInt64) hx hb dX3_link_13 rfl ?_
  refine lv_ladd hx hb dX3_link_14 ?_
  refine wr_callv (wr := []) (va_runV (As := [.int (f_X2_d p0), .long (u.2.1 + u.2.2.2.1.toInt64)]) (rest := []) ⟨hx, hb, hml, hown, hts⟩ (mt_X3_put l dC dI h0 h1 cA s.heap.size u (f_X2_d p0) (u.2.1 + u.2.2.2.1.toInt64)) (cwV 2 hts gX3_28_X3_put rfl rfl rfl (by decide +kernel) ⟨Nat.le_of_ble_eq_true rfl, Nat.le_of_ble_eq_true rfl⟩) (wr_V hK hP hD (ci := 0) (q0 := 0) rfl rfl rfl) rfl rfl hl.1 rfl (lv_room (Nat.le_of_ble_eq_true rfl)) dX3_link_15 ⟨Nat.le_of_ble_eq_true rfl, Nat.le_of_ble_eq_true rfl⟩) hS hP hD hA [0, 1] [] rfl rfl (by decide) (by decide) (fun v_ H locs hw hP hD hS => ?_)
  subst hw
  refine W.eq (g2 := F0 m 18 ls []) rfl ?_
  have hP : va_P (dC, dI) vwCl (Wc h0 h1 cA (f_X3_put u (f_X2_d p0) (u.2.1 + u.2.2.2.1.toInt64))) H := hP
  have hD : va_D A (Wc h0 h1 cA (f_X3_put u (f_X2_d p0) (u.2.1 + u.2.2.2.1.toInt64))) := hD
  refine lv_aload_n hx hb dX3_link_18 rfl (lv_at hl 0 rfl) ?_
  refine lv_lload_n hx hb dX3_link_19 rfl (lv_at hl 2 rfl) ?_
  refine wr_calli (wr := []) (va_runV (As := [.long p1]) (rest := []) ⟨hx, hb, hml, hown, hts⟩ (mt_X3_complete l dC dI h0 h1 cA H.size (f_X3_put u (f_X2_d p0) (u.2.1 + u.2.2.2.1.toInt64)) p1) (cwV 1 hts gX3_141_X3_complete rfl rfl rfl (by decide +kernel) ⟨Nat.le_of_ble_eq_true rfl, Nat.le_of_ble_eq_true rfl⟩) (wr_V hK hP hD (ci := 0) (q0 := 0) rfl rfl rfl) rfl rfl hl.1 rfl (lv_room (Nat.le_of_ble_eq_true rfl)) dX3_link_20 ⟨Nat.le_of_ble_eq_true rfl, Nat.le_of_ble_eq_true rfl⟩) hS hP hD hA [0, 1] [] rfl rfl (by decide) (by decide) (fun r_ v_ H locs hw hP hD hS => ?_)
  obtain ⟨rfl, rfl⟩ := hw
  refine W.eq (g2 := F0 m 23 ls [.int (f_X3_complete (f_X3_put u (f_X2_d p0) (u.2.1 + u.2.2.2.1.toInt64)) p1).1]) rfl ?_
  have hP : va_P (dC, dI) vwCl (Wc h0 h1 cA (f_X3_complete (f_X3_put u (f_X2_d p0) (u.2.1 + u.2.2.2.1.toInt64)) p1).2) H := hP
  have hD : va_D A (Wc h0 h1 cA (f_X3_complete (f_X3_put u (f_X2_d p0) (u.2.1 + u.2.2.2.1.toInt64)) p1).2) := hD
  have hF : f_X3_link u p0 p1 = ((f_X3_complete (f_X3_put u (f_X2_d p0) (u.2.1 + u.2.2.2.1.toInt64)) p1).1, (f_X3_complete (f_X3_put u (f_X2_d p0) (u.2.1 + u.2.2.2.1.toInt64)) p1).2) := rfl
  exact W.iret (v := (f_X3_complete (f_X3_put u (f_X2_d p0) (u.2.1 + u.2.2.2.1.toInt64)) p1).1) hx hb hr (fun t ht hW => ⟨⟨(f_X3_complete (f_X3_put u (f_X2_d p0) (u.2.1 + u.2.2.2.1.toInt64)) p1).1, (f_X3_complete (f_X3_put u (f_X2_d p0) (u.2.1 + u.2.2.2.1.toInt64)) p1).2, rfl, ⟨(congrArg Prod.fst hF).symm, (congrArg Prod.snd hF).symm⟩, by rw [ht]; exact hP, va_K.moved hW.alike hK, hD⟩, hS.F ht⟩) hS.2.2 dX3_link_23

def f_X3_linkToRegister (u : ScT) (p0 : Int32) : Int32 × ScT :=
  if (f_X2_f p0) = 0 then
    ((f_X3_link u p0 (((f_X3_x u p0) + (f_X2_immediateI p0).toInt64) &&& (-2 : Int64))).1, (f_X3_link u p0 (((f_X3_x u p0) + (f_X2_immediateI p0).toInt64) &&& (-2 : Int64))).2)
  else
    ((-1 : Int32), u)
set_option maxHeartbeats 4000000 in
set_option maxRecDepth 100000 in
theorem mt_X3_linkToRegister (l : Launch) (dC : Nat → ClassId) (dI : Nat → Nat → Nat) (h0 h1 : Nat) (cA : ClassId) (sz : Nat) (u : ScT) (p0 : Int32) : Met l yX3_linkToRegister wsX3_linkToRegister ({ frames := 3, cells := 0, slots := 0, locals := 66 }) (wr_P [.ref h0, .int p0] (dC, dI) vwCl (Wc h0 h1 cA u) [(cA, .long)] sz) (va_Qi (fun r v => r = (f_X3_linkToRegister u p0).1 ∧ v = (f_X3_linkToRegister u p0).2) (wr_B (dC, dI) vwCl [(cA, .long)] (va_A (Wc h0 h1 cA u) sz) (Wc h0 h1 cA)) (va_A (Wc h0 h1 cA u) sz)) 0 0 (va_A (Wc h0 h1 cA u) sz) := by
  refine Met.ofW (cc := cX3_linkToRegister) (maxL := 2) (ret := (some .int)) (by decide) rfl ?_
  intro p e s m args below meth c s₁ B hml hv
  obtain ⟨rfl, hsz, hP, hK, hD0⟩ := hv
  have hx := B.exec
  have hb := B.bytes
  have hr := B.returns
  have hts0 := atoms_spec (ws := wsX3_linkToRegister) B.pre
  have hts := fun (w : Cond) (h : w ∈ lw_G) => hts0 w (List.mem_cons_of_mem _ h)
  have hown : s.vm.findClass RX3 = some m.cls := findClass_of_methodNamed B.named
  have hlocks := B.notSynchronized
  subst hsz
  have hD := hD0.self (sz := s.heap.size)
  generalize hAe : va_A (Wc h0 h1 cA u) s.heap.size = A at hD ⊢
  have hA : ∀ q : Nat, s.heap.size ≤ q → A q := fun q h => by rw [← hAe]; exact Or.inr h
  have hS : va_S A s.heap s.heap [] := va_S.rf
  have hl := lv_entry ([.ref h0, .int p0]) (n := 2) (Nat.le_of_ble_eq_true rfl)
  rw [lg_entry_eq]
  generalize (lg_sl ([.ref h0, .int p0]) ++ List.replicate (2 - (lg_sl ([.ref h0, .int p0])).length) Slot.unset).toArray = ls at hl ⊢
  have hl : lv_has ls 2 [(0, .ref h0), (1, .int p0)] := hl
  refine lv_iload_n hx hb dX3_linkToRegister_0 rfl (lv_at hl 1 rfl) ?_
  refine W.callV (W.runS (As := [.int p0]) (rest := []) ⟨hx, hb, hml, hown, hts⟩ (mt_X2_f l p0) (va_cwS 1 hts gX3_157_X2_f rfl rfl rfl (by decide +kernel) ⟨Nat.le_of_ble_eq_true rfl, Nat.le_of_ble_eq_true rfl⟩) preEq rfl rfl hl.1 rfl (lv_room (Nat.le_of_ble_eq_true rfl)) dX3_linkToRegister_1 ⟨Nat.le_of_ble_eq_true rfl, Nat.le_of_ble_eq_true rfl⟩) ?_
  refine W.eq (g2 := F0 m 4 ls [.int (f_X2_f p0)]) rfl ?_
  refine lv_if_eq (tgt := 9) hx hb dX3_linkToRegister_4 (by decide) (fun c1 => ?_) (fun c1 => ?_)
  · refine lv_aload_n hx hb dX3_linkToRegister_9 rfl (lv_at hl 0 rfl) ?_
    refine lv_iload_n hx hb dX3_linkToRegister_10 rfl (lv_at hl 1 rfl) ?_
    refine lv_aload_n hx hb dX3_linkToRegister_11 rfl (lv_at hl 0 rfl) ?_
    refine lv_iload_n hx hb dX3_linkToRegister_12 rfl (lv_at hl 1 rfl) ?_
    refine W.callV (W.runV (As := [.int p0]) (rest := [.int p0, .ref h0]) ⟨hx, hb, hml, hown, hts⟩ (mt_X3_x l dC dI h0 h1 cA u p0) (cwV 1 hts gX3_101_X3_x rfl rfl rfl (by decide +kernel) ⟨Nat.le_of_ble_eq_true rfl, Nat.le_of_ble_eq_true rfl⟩) (rd_V hK hP (ci := 0) (q0 := 0) rfl rfl rfl) rfl rfl hl.1 rfl (lv_room (Nat.le_of_ble_eq_true rfl)) dX3_linkToRegister_13 ⟨Nat.le_of_ble_eq_true rfl, Nat.le_of_ble_eq_true rfl⟩) ?_
    refine W.eq (g2 := F0 m 16 ls [.long (f_X3_x u p0), .int p0, .ref h0]) rfl ?_
    refine lv_iload_n hx hb dX3_linkToRegister_16 rfl (lv_at hl 1 rfl) ?_
    refine W.callV (W.runS (As := [.int p0]) (rest := [.long (f_X3_x u p0), .int p0, .ref h0]) ⟨hx, hb, hml, hown, hts⟩ (mt_X2_immediateI l p0) (va_cwS 1 hts gX3_160_X2_immediateI rfl rfl rfl (by decide +kernel) ⟨Nat.le_of_ble_eq_true rfl, Nat.le_of_ble_eq_true rfl⟩) preEq rfl rfl hl.1 rfl (lv_room (Nat.le_of_ble_eq_true rfl)) dX3_linkToRegister_17 ⟨Nat.le_of_ble_eq_true rfl, Nat.le_of_ble_eq_true rfl⟩) ?_
    refine W.eq (g2 := F0 m 20 ls [.int (f_X2_immediateI p0), .long (f_X3_x u p0), .int p0, .ref h0]) rfl ?_
    refine lv_i2l (v := (f_X2_immediateI p0).toInt64) hx hb dX3_linkToRegister_20 rfl ?_
    refine lv_ladd hx hb dX3_linkToRegister_21 ?_
    refine lv_ldc2 (v := (-2 : Int64)) hx hb hown (hts _ qw_92) dX3_linkToRegister_22 ?_
    refine lv_land hx hb dX3_linkToRegister_25 ?_
    refine wr_calli (wr := []) (va_runV (As := [.int p0, .long (((f_X3_x u p0) + (f_X2_immediateI p0).toInt64) &&& (-2 : Int64))]) (rest := []) ⟨hx, hb, hml, hown, hts⟩ (mt_X3_link l dC dI h0 h1 cA s.heap.size u p0 (((f_X3_x u p0) + (f_X2_immediateI p0).toInt64) &&& (-2 : Int64))) (cwV 2 hts gX3_62_X3_link rfl rfl rfl (by decide +kernel) ⟨Nat.le_of_ble_eq_true rfl, Nat.le_of_ble_eq_true rfl⟩) (wr_V hK hP hD (ci := 0) (q0 := 0) rfl rfl rfl) rfl rfl hl.1 rfl (lv_room (Nat.le_of_ble_eq_true rfl)) dX3_linkToRegister_26 ⟨Nat.le_of_ble_eq_true rfl, Nat.le_of_ble_eq_true rfl⟩) hS hP hD hA [0, 1] [] rfl rfl (by decide) (by decide) (fun r_ v_ H locs hw hP hD hS => ?_)
    obtain ⟨rfl, rfl⟩ := hw
    refine W.eq (g2 := F0 m 29 ls [.int (f_X3_link u p0 (((f_X3_x u p0) + (f_X2_immediateI p0).toInt64) &&& (-2 : Int64))).1]) rfl ?_
    have hP : va_P (dC, dI) vwCl (Wc h0 h1 cA (f_X3_link u p0 (((f_X3_x u p0) + (f_X2_immediateI p0).toInt64) &&& (-2 : Int64))).2) H := hP
    have hD : va_D A (Wc h0 h1 cA (f_X3_link u p0 (((f_X3_x u p0) + (f_X2_immediateI p0).toInt64) &&& (-2 : Int64))).2) := hD
    have hF : f_X3_linkToRegister u p0 = ((f_X3_link u p0 (((f_X3_x u p0) + (f_X2_immediateI p0).toInt64) &&& (-2 : Int64))).1, (f_X3_link u p0 (((f_X3_x u p0) + (f_X2_immediateI p0).toInt64) &&& (-2 : Int64))).2) := by unfold f_X3_linkToRegister; rw [if_pos c1]
    exact W.iret (v := (f_X3_link u p0 (((f_X3_x u p0) + (f_X2_immediateI p0).toInt64) &&& (-2 : Int64))).1) hx hb hr (fun t ht hW => ⟨⟨(f_X3_link u p0 (((f_X3_x u p0) + (f_X2_immediateI p0).toInt64) &&& (-2 : Int64))).1, (f_X3_link u p0 (((f_X3_x u p0) + (f_X2_immediateI p0).toInt64) &&& (-2 : Int64))).2, rfl, ⟨(congrArg Prod.fst hF).symm, (congrArg Prod.snd hF).symm⟩, by rw [ht]; exact hP, va_K.moved hW.alike hK, hD⟩, hS.F ht⟩) hS.2.2 dX3_linkToRegister_29
  · refine lv_iconst (v := (-1 : Int32)) hx hb dX3_linkToRegister_7 (by decide) ?_
    have hF : f_X3_linkToRegister u p0 = ((-1 : Int32), u) := by unfold f_X3_linkToRegister; rw [if_neg c1]
    exact W.iret (v := (-1 : Int32)) hx hb hr (fun t ht hW => ⟨⟨(-1 : Int32), u, rfl, ⟨(congrArg Prod.fst hF).symm, (congrArg Prod.snd hF).symm⟩, by rw [ht]; exact hP, va_K.moved hW.alike hK, hD⟩, hS.F ht⟩) hS.2.2 dX3_linkToRegister_8

def f_X3_branch (u : ScT) (p0 : Int32) : Int32 × ScT :=
  if (f_X2_f p0) = (2 : Int32) then
    ((-1 : Int32), u)
  else if (f_X2_f p0) = (3 : Int32) then
    ((-1 : Int32), u)
  else if (f_X1_compares (f_X2_f p0) (f_X3_x u p0) (f_X3_y u p0)) = 0 then
    ((f_X3_complete u (u.2.1 + u.2.2.2.1.toInt64)).1, (f_X3_complete u (u.2.1 + u.2.2.2.1.toInt64)).2)
  else
    ((f_X3_complete u (u.2.1 + (f_X2_immediateB p0).toInt64)).1, (f_X3_complete u (u.2.1 + (f_X2_immediateB p0).toInt64)).2)
set_option maxHeartbeats 4000000 in
set_option maxRecDepth 100000 in
theorem mt_X3_branch (l : Launch) (dC : Nat → ClassId) (dI : Nat → Nat → Nat) (h0 h1 : Nat) (cA : ClassId) (sz : Nat) (u : ScT) (p0 : Int32) : Met l yX3_branch wsX3_branch ({ frames := 4, cells := 0, slots := 0, locals := 93 }) (wr_P [.ref h0, .int p0] (dC, dI) vwCl (Wc h0 h1 cA u) [(cA, .long)] sz) (va_Qi (fun r v => r = (f_X3_branch u p0).1 ∧ v = (f_X3_branch u p0).2) (wr_B (dC, dI) vwCl [(cA, .long)] (va_A (Wc h0 h1 cA u) sz) (Wc h0 h1 cA)) (va_A (Wc h0 h1 cA u) sz)) 0 0 (va_A (Wc h0 h1 cA u) sz) := by
  refine Met.ofW (cc := cX3_branch) (maxL := 3) (ret := (some .int)) (by decide) rfl ?_
  intro p e s m args below meth c s₁ B hml hv
  obtain ⟨rfl, hsz, hP, hK, hD0⟩ := hv
  have hx := B.exec
  have hb := B.bytes
  have hr := B.returns
  have hts0 := atoms_spec (ws := wsX3_branch) B.pre
  have hts := fun (w : Cond) (h : w ∈ lw_G) => hts0 w (List.mem_cons_of_mem _ h)
  have hown : s.vm.findClass RX3 = some m.cls := findClass_of_methodNamed B.named
  have hlocks := B.notSynchronized
  subst hsz
  have hD := hD0.self (sz := s.heap.size)
  generalize hAe : va_A (Wc h0 h1 cA u) s.heap.size = A at hD ⊢
  have hA : ∀ q : Nat, s.heap.size ≤ q → A q := fun q h => by rw [← hAe]; exact Or.inr h
  have hS : va_S A s.heap s.heap [] := va_S.rf
  have hl := lv_entry ([.ref h0, .int p0]) (n := 3) (Nat.le_of_ble_eq_true rfl)
  rw [lg_entry_eq]
  generalize (lg_sl ([.ref h0, .int p0]) ++ List.replicate (3 - (lg_sl ([.ref h0, .int p0])).length) Slot.unset).toArray = ls at hl ⊢
  have hl : lv_has ls 3 [(0, .ref h0), (1, .int p0)] := hl
  refine lv_iload_n hx hb dX3_branch_0 rfl (lv_at hl 1 rfl) ?_
  refine W.callV (W.runS (As := [.int p0]) (rest := []) ⟨hx, hb, hml, hown, hts⟩ (mt_X2_f l p0) (va_cwS 1 hts gX3_157_X2_f rfl rfl rfl (by decide +kernel) ⟨Nat.le_of_ble_eq_true rfl, Nat.le_of_ble_eq_true rfl⟩) preEq rfl rfl hl.1 rfl (lv_room (Nat.le_of_ble_eq_true rfl)) dX3_branch_1 ⟨Nat.le_of_ble_eq_true rfl, Nat.le_of_ble_eq_true rfl⟩) ?_
  refine W.eq (g2 := F0 m 4 ls [.int (f_X2_f p0)]) rfl ?_
  refine lv_istore_n (lv' := [(2, .int (f_X2_f p0)), (0, .ref h0), (1, .int p0)]) hx hb dX3_branch_4 rfl hl (by decide) rfl (fun ls hl => ?_)
  refine lv_iload_n hx hb dX3_branch_5 rfl (lv_at hl 0 rfl) ?_
  refine lv_iconst (v := (2 : Int32)) hx hb dX3_branch_6 (by decide) ?_
  refine lv_icmp_eq (tgt := 15) hx hb dX3_branch_7 (by decide) (fun c1 => ?_) (fun c1 => ?_)
  · refine lv_iconst (v := (-1 : Int32)) hx hb dX3_branch_15 (by decide) ?_
    have hF : f_X3_branch u p0 = ((-1 : Int32), u) := by unfold f_X3_branch; rw [if_pos c1]
    exact W.iret (v := (-1 : Int32)) hx hb hr (fun t ht hW => ⟨⟨(-1 : Int32), u, rfl, ⟨(congrArg Prod.fst hF).symm, (congrArg Prod.snd hF).symm⟩, by rw [ht]; exact hP, va_K.moved hW.alike hK, hD⟩, hS.F ht⟩) hS.2.2 dX3_branch_16
  · refine lv_iload_n hx hb dX3_branch_10 rfl (lv_at hl 0 rfl) ?_
    refine lv_iconst (v := (3 : Int32)) hx hb dX3_branch_11 (by decide) ?_
    refine lv_icmp_ne (tgt := 17) hx hb dX3_branch_12 (by decide) (fun c2 => ?_) (fun c2 => ?_)
    · refine lv_aload_n hx hb dX3_branch_17 rfl (lv_at hl 1 rfl) ?_
      refine lv_aload_n hx hb dX3_branch_18 rfl (lv_at hl 1 rfl) ?_
      refine va_get (D := (dC, dI)) (ci := 0) (v := .long u.2.1) (C := RX3) (T := TX3) (N := 10) hx hb hts inX3 hown hK hP 0 rfl rfl 1 (by decide) (hts _ qw_64) (fun _ h9 => h9) rfl dX3_branch_19 ?_
      refine lv_iload_n hx hb dX3_branch_22 rfl (lv_at hl 0 rfl) ?_
      refine lv_aload_n hx hb dX3_branch_23 rfl (lv_at hl 1 rfl) ?_
      refine lv_iload_n hx hb dX3_branch_24 rfl (lv_at hl 2 rfl) ?_
      refine W.callV (W.runV (As := [.int p0]) (rest := [.int (f_X2_f p0), .long u.2.1, .ref h0]) ⟨hx, hb, hml, hown, hts⟩ (mt_X3_x l dC dI h0 h1 cA u p0) (cwV 1 hts gX3_101_X3_x rfl rfl rfl (by decide +kernel) ⟨Nat.le_of_ble_eq_true rfl, Nat.le_of_ble_eq_true rfl⟩) (rd_V hK hP (ci := 0) (q0 := 0) rfl rfl rfl) rfl rfl hl.1 rfl (lv_room (Nat.le_of_ble_eq_true rfl)) dX3_branch_25 ⟨Nat.le_of_ble_eq_true rfl, Nat.le_of_ble_eq_true rfl⟩) ?_
      refine W.eq (g2 := F0 m 28 ls [.long (f_X3_x u p0), .int (f_X2_f p0), .long u.2.1, .ref h0]) rfl ?_
      refine lv_aload_n hx hb dX3_branch_28 rfl (lv_at hl 1 rfl) ?_
      refine lv_iload_n hx hb dX3_branch_29 rfl (lv_at hl 2 rfl) ?_
      refine W.callV (W.runV (As := [.int p0]) (rest := [.long (f_X3_x u p0), .int (f_X2_f p0), .long u.2.1, .ref h0]) ⟨hx, hb, hml, hown, hts⟩ (mt_X3_y l dC dI h0 h1 cA u p0) (cwV 1 hts gX3_163_X3_y rfl rfl rfl (by decide +kernel) ⟨Nat.le_of_ble_eq_true rfl, Nat.le_of_ble_eq_true rfl⟩) (rd_V hK hP (ci := 0) (q0 := 0) rfl rfl rfl) rfl rfl hl.1 rfl (lv_room (Nat.le_of_ble_eq_true rfl)) dX3_branch_30 ⟨Nat.le_of_ble_eq_true rfl, Nat.le_of_ble_eq_true rfl⟩) ?_
      refine W.eq (g2 := F0 m 33 ls [.long (f_X3_y u p0), .long (f_X3_x u p0), .int (f_X2_f p0), .long u.2.1, .ref h0]) rfl ?_
      refine W.callV (W.runS (As := [.int (f_X2_f p0), .long (f_X3_x u p0), .long (f_X3_y u p0)]) (rest := [.long u.2.1, .ref h0]) ⟨hx, hb, hml, hown, hts⟩ (mt_X1_compares l (f_X2_f p0) (f_X3_x u p0) (f_X3_y u p0)) (va_cwS 3 hts gX3_166_X1_compares rfl rfl rfl (by decide +kernel) ⟨Nat.le_of_ble_eq_true rfl, Nat.le_of_ble_eq_true rfl⟩) preEq rfl rfl hl.1 rfl (lv_room (Nat.le_of_ble_eq_true rfl)) dX3_branch_33 ⟨Nat.le_of_ble_eq_true rfl, Nat.le_of_ble_eq_true rfl⟩) ?_
      refine W.eq (g2 := F0 m 36 ls [.int (f_X1_compares (f_X2_f p0) (f_X3_x u p0) (f_X3_y u p0)), .long u.2.1, .ref h0]) rfl ?_
      refine lv_if_eq (tgt := 46) hx hb dX3_branch_36 (by decide) (fun c3 => ?_) (fun c3 => ?_)
      · refine lv_aload_n hx hb dX3_branch_46 rfl (lv_at hl 1 rfl) ?_
        refine va_get (D := (dC, dI)) (ci := 0) (v := .int u.2.2.2.1) (C := RX3) (T := TX3) (N := 10) hx hb hts inX3 hown hK hP 0 rfl rfl 3 (by decide) (hts _ qw_77) (fun _ h9 => h9) rfl dX3_branch_47 ?_
        refine lv_i2l (v := u.2.2.2.1.toInt64) hx hb dX3_branch_50 rfl ?_
        refine lv_ladd hx hb dX3_branch_51 ?_
        refine wr_calli (wr := []) (va_runV (As := [.long (u.2.1 + u.2.2.2.1.toInt64)]) (rest := []) ⟨hx, hb, hml, hown, hts⟩ (mt_X3_complete l dC dI h0 h1 cA s.heap.size u (u.2.1 + u.2.2.2.1.toInt64)) (cwV 1 hts gX3_141_X3_complete rfl rfl rfl (by decide +kernel) ⟨Nat.le_of_ble_eq_true rfl, Nat.le_of_ble_eq_true rfl⟩) (wr_V hK hP hD (ci := 0) (q0 := 0) rfl rfl rfl) rfl rfl hl.1 rfl (lv_room (Nat.le_of_ble_eq_true rfl)) dX3_branch_52 ⟨Nat.le_of_ble_eq_true rfl, Nat.le_of_ble_eq_true rfl⟩) hS hP hD hA [0, 1] [] rfl rfl (by decide) (by decide) (fun r_ v_ H locs hw hP hD hS => ?_)
        obtain ⟨rfl, rfl⟩ := hw
        refine W.eq (g2 := F0 m 55 ls [.int (f_X3_complete u (u.2.1 + u.2.2.2.1.toInt64)).1]) rfl ?_
        have hP : va_P (dC, dI) vwCl (Wc h0 h1 cA (f_X3_complete u (u.2.1 + u.2.2.2.1.toInt64)).2) H := hP
        have hD : va_D A (Wc h0 h1 cA (f_X3_complete u (u.2.1 + u.2.2.2.1.toInt64)).2) := hD
        have hF : f_X3_branch u p0 = ((f_X3_complete u (u.2.1 + u.2.2.2.1.toInt64)).1, (f_X3_complete u (u.2.1 + u.2.2.2.1.toInt64)).2) := by unfold f_X3_branch; rw [if_neg c1, if_neg c2, if_pos c3]
        exact W.iret (v := (f_X3_complete u (u.2.1 + u.2.2.2.1.toInt64)).1) hx hb hr (fun t ht hW => ⟨⟨(f_X3_complete u (u.2.1 + u.2.2.2.1.toInt64)).1, (f_X3_complete u (u.2.1 + u.2.2.2.1.toInt64)).2, rfl, ⟨(congrArg Prod.fst hF).symm, (congrArg Prod.snd hF).symm⟩, by rw [ht]; exact hP, va_K.moved hW.alike hK, hD⟩, hS.F ht⟩) hS.2.2 dX3_branch_55
      · refine lv_iload_n hx hb dX3_branch_39 rfl (lv_at hl 2 rfl) ?_
        refine W.callV (W.runS (As := [.int p0]) (rest := [.long u.2.1, .ref h0]) ⟨hx, hb, hml, hown, hts⟩ (mt_X2_immediateB l p0) (va_cwS 1 hts gX3_172_X2_immediateB rfl rfl rfl (by decide +kernel) ⟨Nat.le_of_ble_eq_true rfl, Nat.le_of_ble_eq_true rfl⟩) preEq rfl rfl hl.1 rfl (lv_room (Nat.le_of_ble_eq_true rfl)) dX3_branch_40 ⟨Nat.le_of_ble_eq_true rfl, Nat.le_of_ble_eq_true rfl⟩) ?_
        refine W.eq (g2 := F0 m 43 ls [.int (f_X2_immediateB p0), .long u.2.1, .ref h0]) rfl ?_
        refine lv_goto (tgt := 50) hx hb dX3_branch_43 (by decide) ?_
        refine lv_i2l (v := (f_X2_immediateB p0).toInt64) hx hb dX3_branch_50 rfl ?_
        refine lv_ladd hx hb dX3_branch_51 ?_
        refine wr_calli (wr := []) (va_runV (As := [.long (u.2.1 + (f_X2_immediateB p0).toInt64)]) (rest := []) ⟨hx, hb, hml, hown, hts⟩ (mt_X3_complete l dC dI h0 h1 cA s.heap.size u (u.2.1 + (f_X2_immediateB p0).toInt64)) (cwV 1 hts gX3_141_X3_complete rfl rfl rfl (by decide +kernel) ⟨Nat.le_of_ble_eq_true rfl, Nat.le_of_ble_eq_true rfl⟩) (wr_V hK hP hD (ci := 0) (q0 := 0) rfl rfl rfl) rfl rfl hl.1 rfl (lv_room (Nat.le_of_ble_eq_true rfl)) dX3_branch_52 ⟨Nat.le_of_ble_eq_true rfl, Nat.le_of_ble_eq_true rfl⟩) hS hP hD hA [0, 1] [] rfl rfl (by decide) (by decide) (fun r_ v_ H locs hw hP hD hS => ?_)
        obtain ⟨rfl, rfl⟩ := hw
        refine W.eq (g2 := F0 m 55 ls [.int (f_X3_complete u (u.2.1 + (f_X2_immediateB p0).toInt64)).1]) rfl ?_
        have hP : va_P (dC, dI) vwCl (Wc h0 h1 cA (f_X3_complete u (u.2.1 + (f_X2_immediateB p0).toInt64)).2) H := hP
        have hD : va_D A (Wc h0 h1 cA (f_X3_complete u (u.2.1 + (f_X2_immediateB p0).toInt64)).2) := hD
        have hF : f_X3_branch u p0 = ((f_X3_complete u (u.2.1 + (f_X2_immediateB p0).toInt64)).1, (f_X3_complete u (u.2.1 + (f_X2_immediateB p0).toInt64)).2) := by unfold f_X3_branch; rw [if_neg c1, if_neg c2, if_neg c3]
        exact W.iret (v := (f_X3_complete u (u.2.1 + (f_X2_immediateB p0).toInt64)).1) hx hb hr (fun t ht hW => ⟨⟨(f_X3_complete u (u.2.1 + (f_X2_immediateB p0).toInt64)).1, (f_X3_complete u (u.2.1 + (f_X2_immediateB p0).toInt64)).2, rfl, ⟨(congrArg Prod.fst hF).symm, (congrArg Prod.snd hF).symm⟩, by rw [ht]; exact hP, va_K.moved hW.alike hK, hD⟩, hS.F ht⟩) hS.2.2 dX3_branch_55
    · refine lv_iconst (v := (-1 : Int32)) hx hb dX3_branch_15 (by decide) ?_
      have hF : f_X3_branch u p0 = ((-1 : Int32), u) := by unfold f_X3_branch; rw [if_neg c1, if_pos c2]
      exact W.iret (v := (-1 : Int32)) hx hb hr (fun t ht hW => ⟨⟨(-1 : Int32), u, rfl, ⟨(congrArg Prod.fst hF).symm, (congrArg Prod.snd hF).symm⟩, by rw [ht]; exact hP, va_K.moved hW.alike hK, hD⟩, hS.F ht⟩) hS.2.2 dX3_branch_16

def f_X3_jump (u : ScT) (p0 : Int64) : ScT :=
  (sc4 (sc1 u (p0 &&& (-2 : Int64))) (0 : Int32))
set_option maxHeartbeats 4000000 in
set_option maxRecDepth 100000 in
theorem mt_X3_jump (l : Launch) (dC : Nat → ClassId) (dI : Nat → Nat → Nat) (h0 h1 : Nat) (cA : ClassId) (sz : Nat) (u : ScT) (p0 : Int64) : Met l yX3_jump wsX3_jump ({ frames := 0, cells := 0, slots := 0, locals := 0 }) (wr_P [.ref h0, .long p0] (dC, dI) vwCl (Wc h0 h1 cA u) [(cA, .long)] sz) (va_Qv (fun v => v = f_X3_jump u p0) (wr_B (dC, dI) vwCl [(cA, .long)] (va_A (Wc h0 h1 cA u) sz) (Wc h0 h1 cA)) (va_A (Wc h0 h1 cA u) sz)) 0 0 (va_A (Wc h0 h1 cA u) sz) := by
  refine Met.ofW (cc := cX3_jump) (maxL := 3) (ret := none) (by decide) rfl ?_
  intro p e s m args below meth c s₁ B hml hv
  obtain ⟨rfl, hsz, hP, hK, hD0⟩ := hv
  have hx := B.exec
  have hb := B.bytes
  have hr := B.returns
  have hts0 := atoms_spec (ws := wsX3_jump) B.pre
  have hts := fun (w : Cond) (h : w ∈ lw_G) => hts0 w (List.mem_cons_of_mem _ h)
  have hown : s.vm.findClass RX3 = some m.cls := findClass_of_methodNamed B.named
  have hlocks := B.notSynchronized
  subst hsz
  have hD := hD0.self (sz := s.heap.size)
  generalize hAe : va_A (Wc h0 h1 cA u) s.heap.size = A at hD ⊢
  have hA : ∀ q : Nat, s.heap.size ≤ q → A q := fun q h => by rw [← hAe]; exact Or.inr h
  have hS : va_S A s.heap s.heap [] := va_S.rf
  have hl := lv_entry ([.ref h0, .long p0]) (n := 3) (Nat.le_of_ble_eq_true rfl)
  rw [lg_entry_eq]
  generalize (lg_sl ([.ref h0, .long p0]) ++ List.replicate (3 - (lg_sl ([.ref h0, .long p0])).length) Slot.unset).toArray = ls at hl ⊢
  have hl : lv_has ls 3 [(0, .ref h0), (1, .long p0)] := hl
  refine lv_aload_n hx hb dX3_jump_0 rfl (lv_at hl 0 rfl) ?_
  refine lv_lload_n hx hb dX3_jump_1 rfl (lv_at hl 1 rfl) ?_
  refine lv_ldc2 (v := (-2 : Int64)) hx hb hown (hts _ qw_92) dX3_jump_2 ?_
  refine lv_land hx hb dX3_jump_5 ?_
  refine va_put (D := (dC, dI)) (ci := 0) (v := .long (p0 &&& (-2 : Int64))) (ty := .long) (C := RX3) (T := TX3) (N := 10) hx hb hts inX3 tyX3 tyX3_ok nmX3 hown hK hP hD hS 0 rfl rfl 1 (by decide) (hts _ qw_64) (fun _ h9 => h9) rfl (by decide +kernel) rfl rfl (Nat.le_of_ble_eq_true rfl) dX3_jump_6 (fun H locs hP hD hS => ?_)
  have hP : va_P (dC, dI) vwCl (Wc h0 h1 cA (sc1 u (p0 &&& (-2 : Int64)))) H := hP
  have hD : va_D A (Wc h0 h1 cA (sc1 u (p0 &&& (-2 : Int64)))) := hD
  refine lv_aload_n hx hb dX3_jump_9 rfl (lv_at hl 0 rfl) ?_
  refine lv_iconst (v := (0 : Int32)) hx hb dX3_jump_10 (by decide) ?_
  refine va_put (D := (dC, dI)) (ci := 0) (v := .int (0 : Int32)) (ty := .int) (C := RX3) (T := TX3) (N := 10) hx hb hts inX3 tyX3 tyX3_ok nmX3 hown hK hP hD hS 0 rfl rfl 4 (by decide) (hts _ qw_61) (fun _ h9 => h9) rfl (by decide +kernel) rfl rfl (Nat.le_of_ble_eq_true rfl) dX3_jump_11 (fun H locs hP hD hS => ?_)
  have hP : va_P (dC, dI) vwCl (Wc h0 h1 cA (sc4 (sc1 u (p0 &&& (-2 : Int64))) (0 : Int32))) H := hP
  have hD : va_D A (Wc h0 h1 cA (sc4 (sc1 u (p0 &&& (-2 : Int64))) (0 : Int32))) := hD
  have hF : f_X3_jump u p0 = (sc4 (sc1 u (p0 &&& (-2 : Int64))) (0 : Int32)) := rfl
  exact W.vret hx hb hr (fun t ht hW => ⟨⟨(sc4 (sc1 u (p0 &&& (-2 : Int64))) (0 : Int32)), rfl, hF.symm, by rw [ht]; exact hP, va_K.moved hW.alike hK, hD⟩, hS.F ht⟩) hS.2.2 dX3_jump_14

def f_X3_want (u : ScT) (p0 : Int32) (p1 : Int64) (p2 : Int32) (p3 : Int64) (p4 : Int32) (p5 : Int32) : Int32 × ScT :=
  (p0, (sc9 (sc8 (sc7 (sc6 (sc5 (sc4 u p0) p1) p2) p3) p4) p5))
set_option maxHeartbeats 4000000 in
set_option maxRecDepth 100000 in
theorem mt_X3_want (l : Launch) (dC : Nat → ClassId) (dI : Nat → Nat → Nat) (h0 h1 : Nat) (cA : ClassId) (sz : Nat) (u : ScT) (p0 : Int32) (p1 : Int64) (p2 : Int32) (p3 : Int64) (p4 : Int32) (p5 : Int32) : Met l yX3_want wsX3_want ({ frames := 0, cells := 0, slots := 0, locals := 0 }) (wr_P [.ref h0, .int p0, .long p1, .int p2, .long p3, .int p4, .int p5] (dC, dI) vwCl (Wc h0 h1 cA u) [(cA, .long)] sz) (va_Qi (fun r v => r = (f_X3_want u p0 p1 p2 p3 p4 p5).1 ∧ v = (f_X3_want u p0 p1 p2 p3 p4 p5).2) (wr_B (dC, dI) vwCl [(cA, .long)] (va_A (Wc h0 h1 cA u) sz) (Wc h0 h1 cA)) (va_A (Wc h0 h1 cA u) sz)) 0 0 (va_A (Wc h0 h1 cA u) sz) := by
  refine Met.ofW (cc := cX3_want) (maxL := 9) (ret := (some .int)) (by decide) rfl ?_
  intro p e s m args below meth c s₁ B hml hv
  obtain ⟨rfl, hsz, hP, hK, hD0⟩ := hv
  have hx := B.exec
  have hb := B.bytes
  have hr := B.returns
  have hts0 := atoms_spec (ws := wsX3_want) B.pre
  have hts := fun (w : Cond) (h : w ∈ lw_G) => hts0 w (List.mem_cons_of_mem _ h)
  have hown : s.vm.findClass RX3 = some m.cls := findClass_of_methodNamed B.named
  have hlocks := B.notSynchronized
  subst hsz
  have hD := hD0.self (sz := s.heap.size)
  generalize hAe : va_A (Wc h0 h1 cA u) s.heap.size = A at hD ⊢
  have hA : ∀ q : Nat, s.heap.size ≤ q → A q := fun q h => by rw [← hAe]; exact Or.inr h
  have hS : va_S A s.heap s.heap [] := va_S.rf
  have hl := lv_entry ([.ref h0, .int p0, .long p1, .int p2, .long p3, .int p4, .int p5]) (n := 9) (Nat.le_of_ble_eq_true rfl)
  rw [lg_entry_eq]
  generalize (lg_sl ([.ref h0, .int p0, .long p1, .int p2, .long p3, .int p4, .int p5]) ++ List.replicate (9 - (lg_sl ([.ref h0, .int p0, .long p1, .int p2, .long p3, .int p4, .int p5])).length) Slot.unset).toArray = ls at hl ⊢
  have hl : lv_has ls 9 [(0, .ref h0), (1, .int p0), (2, .long p1), (4, .int p2), (5, .long p3), (7, .int p4), (8, .int p5)] := hl
  refine lv_aload_n hx hb dX3_want_0 rfl (lv_at hl 0 rfl) ?_
  refine lv_iload_n hx hb dX3_want_1 rfl (lv_at hl 1 rfl) ?_
  refine va_put (D := (dC, dI)) (ci := 0) (v := .int p0) (ty := .int) (C := RX3) (T := TX3) (N := 10) hx hb hts inX3 tyX3 tyX3_ok nmX3 hown hK hP hD hS 0 rfl rfl 4 (by decide) (hts _ qw_61) (fun _ h9 => h9) rfl (by decide +kernel) rfl rfl (Nat.le_of_ble_eq_true rfl) dX3_want_2 (fun H locs hP hD hS => ?_)
  have hP : va_P (dC, dI) vwCl (Wc h0 h1 cA (sc4 u p0)) H := hP
  have hD : va_D A (Wc h0 h1 cA (sc4 u p0)) := hD
  refine lv_aload_n hx hb dX3_want_5 rfl (lv_at hl 0 rfl) ?_
  refine lv_lload_n hx hb dX3_want_6 rfl (lv_at hl 2 rfl) ?_
  refine va_put (D := (dC, dI)) (ci := 0) (v := .long p1) (ty := .long) (C := RX3) (T := TX3) (N := 10) hx hb hts inX3 tyX3 tyX3_ok nmX3 hown hK hP hD hS 0 rfl rfl 5 (by decide) (hts _ qw_66) (fun _ h9 => h9) rfl (by decide +kernel) rfl rfl (Nat.le_of_ble_eq_true rfl) dX3_want_7 (fun H locs hP hD hS => ?_)
  have hP : va_P (dC, dI) vwCl (Wc h0 h1 cA (sc5 (sc4 u p0) p1)) H := hP
  have hD : va_D A (Wc h0 h1 cA (sc5 (sc4 u p0) p1)) := hD
  refine lv_aload_n hx hb dX3_want_10 rfl (lv_at hl 0 rfl) ?_
  refine lv_iload hx hb dX3_want_11 (lv_at hl 3 rfl) ?_
  refine va_put (D := (dC, dI)) (ci := 0) (v := .int p2) (ty := .int) (C := RX3) (T := TX3) (N := 10) hx hb hts inX3 tyX3 tyX3_ok nmX3 hown hK hP hD hS 0 rfl rfl 6 (by decide) (hts _ qw_62) (fun _ h9 => h9) rfl (by decide +kernel) rfl rfl (Nat.le_of_ble_eq_true rfl) dX3_want_13 (fun H locs hP hD hS => ?_)
  have hP : va_P (dC, dI) vwCl (Wc h0 h1 cA (sc6 (sc5 (sc4 u p0) p1) p2)) H := hP
  have hD : va_D A (Wc h0 h1 cA (sc6 (sc5 (sc4 u p0) p1) p2)) := hD
  refine lv_aload_n hx hb dX3_want_16 rfl (lv_at hl 0 rfl) ?_
  refine lv_lload hx hb dX3_want_17 (lv_at hl 4 rfl) ?_
  refine va_put (D := (dC, dI)) (ci := 0) (v := .long p3) (ty := .long) (C := RX3) (T := TX3) (N := 10) hx hb hts inX3 tyX3 tyX3_ok nmX3 hown hK hP hD hS 0 rfl rfl 7 (by decide) (hts _ qw_67) (fun _ h9 => h9) rfl (by decide +kernel) rfl rfl (Nat.le_of_ble_eq_true rfl) dX3_want_19 (fun H locs hP hD hS => ?_)
  have hP : va_P (dC, dI) vwCl (Wc h0 h1 cA (sc7 (sc6 (sc5 (sc4 u p0) p1) p2) p3)) H := hP
  have hD : va_D A (Wc h0 h1 cA (sc7 (sc6 (sc5 (sc4 u p0) p1) p2) p3)) := hD
  refine lv_aload_n hx hb dX3_want_22 rfl (lv_at hl 0 rfl) ?_
  refine lv_iload hx hb dX3_want_23 (lv_at hl 5 rfl) ?_
  refine va_put (D := (dC, dI)) (ci := 0) (v := .int p4) (ty := .int) (C := RX3) (T := TX3) (N := 10) hx hb hts inX3 tyX3 tyX3_ok nmX3 hown hK hP hD hS 0 rfl rfl 8 (by decide) (hts _ qw_63) (fun _ h9 => h9) rfl (by decide +kernel) rfl rfl (Nat.le_of_ble_eq_true rfl) dX3_want_25 (fun H locs hP hD hS => ?_)
  have hP : va_P (dC, dI) vwCl (Wc h0 h1 cA (sc8 (sc7 (sc6 (sc5 (sc4 u p0) p1) p2) p3) p4)) H := hP
  have hD : va_D A (Wc h0 h1 cA (sc8 (sc7 (sc6 (sc5 (sc4 u p0) p1) p2) p3) p4)) := hD
  refine lv_aload_n hx hb dX3_want_28 rfl (lv_at hl 0 rfl) ?_
  refine lv_iload hx hb dX3_want_29 (lv_at hl 6 rfl) ?_
  refine va_put (D := (dC, dI)) (ci := 0) (v := .int p5) (ty := .int) (C := RX3) (T := TX3) (N := 10) hx hb hts inX3 tyX3 tyX3_ok nmX3 hown hK hP hD hS 0 rfl rfl 9 (by decide) (hts _ qw_68) (fun _ h9 => h9) rfl (by decide +kernel) rfl rfl (Nat.le_of_ble_eq_true rfl) dX3_want_31 (fun H locs hP hD hS => ?_)
  have hP : va_P (dC, dI) vwCl (Wc h0 h1 cA (sc9 (sc8 (sc7 (sc6 (sc5 (sc4 u p0) p1) p2) p3) p4) p5)) H := hP
  have hD : va_D A (Wc h0 h1 cA (sc9 (sc8 (sc7 (sc6 (sc5 (sc4 u p0) p1) p2) p3) p4) p5)) := hD
  refine lv_iload_n hx hb dX3_want_34 rfl (lv_at hl 1 rfl) ?_
  have hF : f_X3_want u p0 p1 p2 p3 p4 p5 = (p0, (sc9 (sc8 (sc7 (sc6 (sc5 (sc4 u p0) p1) p2) p3) p4) p5)) := rfl
  exact W.iret (v := p0) hx hb hr (fun t ht hW => ⟨⟨p0, (sc9 (sc8 (sc7 (sc6 (sc5 (sc4 u p0) p1) p2) p3) p4) p5), rfl, ⟨(congrArg Prod.fst hF).symm, (congrArg Prod.snd hF).symm⟩, by rw [ht]; exact hP, va_K.moved hW.alike hK, hD⟩, hS.F ht⟩) hS.2.2 dX3_want_35
