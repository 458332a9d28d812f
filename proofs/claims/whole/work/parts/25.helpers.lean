abbrev Wl (h0 h1 : Nat) (cA : ClassId) (o0 : Nat) (cO : ClassId) (q : ScT × (Nat → Int64)) : va_W := [(h0, .inr (0, [.ref h1, .long q.1.2.1, .long q.1.2.2.1, .int q.1.2.2.2.1, .int q.1.2.2.2.2.1, .long q.1.2.2.2.2.2.1, .int q.1.2.2.2.2.2.2.1, .long q.1.2.2.2.2.2.2.2.1, .int q.1.2.2.2.2.2.2.2.2.1, .int q.1.2.2.2.2.2.2.2.2.2])), (h1, .inl (cA, 32, .inr (.inl q.1.1))), (o0, .inl (cO, 1, .inr (.inl q.2)))]
def h_get (u : ScT) (z : Nat → Int64) (p0 : Int32) : Int32 × ScT × (Nat → Int64) :=
  if (e_X3_get u p0) = true then ((1 : Int32), (u, z)) else ((0 : Int32), ((f_X3_get u p0).2, vp_updL z ((0 : Int32).toNatClampNeg) (f_X3_get u p0).1))
set_option maxHeartbeats 4000000 in
set_option maxRecDepth 100000 in
theorem mt_L_get (l : Launch) (hl9 : l.stackTraces = false) (dC : Nat → ClassId) (dI : Nat → Nat → Nat) (h0 h1 : Nat) (cA : ClassId) (o0 : Nat) (cO : ClassId) (sz : Nat) (u : ScT) (z : Nat → Int64) (p0 : Int32) : Met l yL_get wsL_get ({ frames := 7, cells := 1, slots := 6, locals := 103 }) (tw_P [.ref h0, .int p0, .ref o0] (dC, dI) vwCl (Wl h0 h1 cA o0 cO (u, z)) [(cA, .long), (cO, .long)] sz) (va_Qi (fun r v => r = (h_get u z p0).1 ∧ v = (h_get u z p0).2) (wr_B (dC, dI) vwCl [(cA, .long), (cO, .long)] (va_A (Wl h0 h1 cA o0 cO (u, z)) sz) (Wl h0 h1 cA o0 cO)) (va_A (Wl h0 h1 cA o0 cO (u, z)) sz)) 1 6 (va_A (Wl h0 h1 cA o0 cO (u, z)) sz) := by
  refine va_MetW (cc := cL_get) (maxL := 4) (ret := (some .int)) (by decide) rfl ?_
  intro p e s m args below meth c s₁ B hml hv
  obtain ⟨rfl, hsz, hP, hK, hD0, hT⟩ := hv
  have hx := B.exec
  have hb := B.bytes
  have hr := B.returns
  have hts0 := atoms_spec (ws := wsL_get) B.pre
  have hts := fun (w : Cond) (h : w ∈ lw_G) => hts0 w (List.mem_cons_of_mem _ h)
  have hown : s.vm.findClass RL = some m.cls := findClass_of_methodNamed B.named
  have hTab : c.exceptionTable.toList = tableOf [(0, 8, 11, 13)] := vx_table (x := yL_get) B (hts0 _ List.mem_cons_self)
  subst hsz
  have hD := hD0.self (sz := s.heap.size)
  generalize hAe : va_A (Wl h0 h1 cA o0 cO (u, z)) s.heap.size = A at hD hT ⊢
  have hA : ∀ q : Nat, s.heap.size ≤ q → A q := fun q h => by rw [← hAe]; exact Or.inr h
  have hS : va_S A s.heap s.heap [] := va_S.rf
  obtain ⟨hU9, hN9, hc1, hc2, hc3, hd1, hd2, hd3, hs1, hs2, hs3⟩ := id hT
  have hl := lv_entry ([.ref h0, .int p0, .ref o0]) (n := 4) (Nat.le_of_ble_eq_true rfl)
  rw [lg_entry_eq]
  generalize (lg_sl ([.ref h0, .int p0, .ref o0]) ++ List.replicate (4 - (lg_sl ([.ref h0, .int p0, .ref o0])).length) Slot.unset).toArray = ls at hl ⊢
  have hl : lv_has ls 4 [(0, .ref h0), (1, .int p0), (2, .ref o0)] := hl
  refine lv_aload_n hx hb dL_get_0 rfl (lv_at hl 2 rfl) ?_
  refine lv_iconst (v := (0 : Int32)) hx hb dL_get_1 (by decide) ?_
  refine lv_aload_n hx hb dL_get_2 rfl (lv_at hl 0 rfl) ?_
  refine lv_iload_n hx hb dL_get_3 rfl (lv_at hl 1 rfl) ?_
  have hF := va_free (wc := (Wc h0 h1 cA u)) hD hS hA [0, 1] rfl
  have hPc := hP.sub (ws' := (Wc h0 h1 cA u)) [0, 1] rfl
  have hDc := hD.sub (ws' := (Wc h0 h1 cA u)) [0, 1] (by decide) rfl
  have hKc := hK.sub (tys' := [(cA, .long)]) [0] rfl
  refine vx_calll (vx_runV (As := [.int p0]) (rest := [.int (0 : Int32), .ref o0]) ⟨hx, hb, hml, hown, hts⟩ (mt_X3_get l hl9 dC dI h0 h1 cA s.heap.size u p0) (cwV 1 hts gL_7_X3_get rfl rfl rfl (by decide +kernel) ⟨Nat.le_of_ble_eq_true rfl, Nat.le_of_ble_eq_true rfl⟩) (tw_V hKc hPc hDc hT hS hF (ci := 0) (q0 := 0) rfl rfl rfl) rfl rfl hl.1 rfl (lv_room (Nat.le_of_ble_eq_true rfl)) dL_get_4 ⟨Nat.le_of_ble_eq_true rfl, Nat.le_of_ble_eq_true rfl⟩) hS (fun q _ h => hF q h) hF (fun q _ h => hF q h) (fun E9 ce q9 u9 t H locs ht hvm hpx hBX hz hk hS hce hcv hcl => ?_) (fun r_ v_ t H locs ht hvm hw hB hz hk hS => ?_)
  · obtain ⟨rfl, hP1, hK1, hD1⟩ := hBX
    rw [ht] at hP1
    obtain ⟨hP2, hD2⟩ := va_join (wr := [(o0, .inl (cO, 1, .inr (.inl z)))]) (w1 := (Wc h0 h1 cA u)) hP hD [0, 1] [2] rfl rfl (by decide) (by decide) hk hF hP1 hD1
    refine vx_catch (own := RL) (name := "java/lang/IndexOutOfBoundsException") (E := "java/lang/IndexOutOfBoundsException") hown [] ⟨0, 8, 11, 13⟩ [] (by rw [hTab]; rfl) (fun z hz => nomatch hz) (by decide) (by decide) (hts _ qw_230) (va_Nw.use rfl hc1) hce hcv hcl ?_
    refine lv_astore_n (lv' := [(3, .ref q9)]) hx hb dL_get_11 rfl (lv_sub hl [] rfl) (by decide) rfl (fun ls hl => ?_)
    refine lv_iconst (v := (1 : Int32)) hx hb dL_get_12 (by decide) ?_
    exact W.iret (v := (1 : Int32)) hx hb hr (fun t ht hW => ⟨⟨(1 : Int32), (u, z), rfl, ⟨by unfold h_get; rw [if_pos hpx], by unfold h_get; rw [if_pos hpx]⟩, by rw [ht]; exact hP2.sub (ws' := (Wl h0 h1 cA o0 cO (u, z))) [1, 2, 0] rfl, va_K.moved hW.alike hK, hD2.sub (ws' := (Wl h0 h1 cA o0 cO (u, z))) [1, 2, 0] (by decide) rfl⟩, hS.F ht⟩) hS.2.2 dL_get_13
  · obtain ⟨hE, rfl, rfl⟩ := hw
    obtain ⟨hP1, hK1, hD1⟩ := hB
    rw [ht] at hP1
    obtain ⟨hP2, hD2⟩ := va_join (wr := [(o0, .inl (cO, 1, .inr (.inl z)))]) (w1 := (Wc h0 h1 cA (f_X3_get u p0).2)) hP hD [0, 1] [2] rfl rfl (by decide) (by decide) hk hF hP1 hD1
    refine W.eq (g2 := F0 m 7 ls [.long (f_X3_get u p0).1, .int (0 : Int32), .ref o0]) rfl ?_
    refine va_last hx hb hK hP2 hD2 hS 0 1 rfl rfl (by unfold vp_in; decide) dL_get_7 (fun H locs hP2 hD2 hS => ?_)
    refine lv_goto (tgt := 14) hx hb dL_get_8 (by decide) ?_
    refine lv_iconst (v := (0 : Int32)) hx hb dL_get_14 (by decide) ?_
    have hn : ¬ (e_X3_get u p0) = true := by rw [hE]; decide
    exact W.iret (v := (0 : Int32)) hx hb hr (fun t ht hW => ⟨⟨(0 : Int32), ((f_X3_get u p0).2, vp_updL z ((0 : Int32).toNatClampNeg) (f_X3_get u p0).1), rfl, ⟨by unfold h_get; rw [if_neg hn], by unfold h_get; rw [if_neg hn]⟩, by rw [ht]; exact hP2.sub (ws' := (Wl h0 h1 cA o0 cO ((f_X3_get u p0).2, vp_updL z ((0 : Int32).toNatClampNeg) (f_X3_get u p0).1))) [1, 2, 0] rfl, va_K.moved hW.alike hK, hD2.sub (ws' := (Wl h0 h1 cA o0 cO ((f_X3_get u p0).2, vp_updL z ((0 : Int32).toNatClampNeg) (f_X3_get u p0).1))) [1, 2, 0] (by decide) rfl⟩, hS.F ht⟩) hS.2.2 dL_get_15

def h_set (u : ScT) (p0 : Int32) (p1 : Int64) : Int32 × ScT :=
  if (e_X3_set u p0 p1) = true then ((1 : Int32), u) else ((0 : Int32), (f_X3_set u p0 p1))
set_option maxHeartbeats 4000000 in
set_option maxRecDepth 100000 in
theorem mt_L_set (l : Launch) (hl9 : l.stackTraces = false) (dC : Nat → ClassId) (dI : Nat → Nat → Nat) (h0 h1 : Nat) (cA : ClassId) (sz : Nat) (u : ScT) (p0 : Int32) (p1 : Int64) : Met l yL_set wsL_set ({ frames := 7, cells := 1, slots := 6, locals := 105 }) (tw_P [.ref h0, .int p0, .long p1] (dC, dI) vwCl (Wc h0 h1 cA u) [(cA, .long)] sz) (va_Qi (fun r v => r = (h_set u p0 p1).1 ∧ v = (h_set u p0 p1).2) (wr_B (dC, dI) vwCl [(cA, .long)] (va_A (Wc h0 h1 cA u) sz) (Wc h0 h1 cA)) (va_A (Wc h0 h1 cA u) sz)) 1 6 (va_A (Wc h0 h1 cA u) sz) := by
  refine va_MetW (cc := cL_set) (maxL := 5) (ret := (some .int)) (by decide) rfl ?_
  intro p e s m args below meth c s₁ B hml hv
  obtain ⟨rfl, hsz, hP, hK, hD0, hT⟩ := hv
  have hx := B.exec
  have hb := B.bytes
  have hr := B.returns
  have hts0 := atoms_spec (ws := wsL_set) B.pre
  have hts := fun (w : Cond) (h : w ∈ lw_G) => hts0 w (List.mem_cons_of_mem _ h)
  have hown : s.vm.findClass RL = some m.cls := findClass_of_methodNamed B.named
  have hTab : c.exceptionTable.toList = tableOf [(0, 6, 9, 13)] := vx_table (x := yL_set) B (hts0 _ List.mem_cons_self)
  subst hsz
  have hD := hD0.self (sz := s.heap.size)
  generalize hAe : va_A (Wc h0 h1 cA u) s.heap.size = A at hD hT ⊢
  have hA : ∀ q : Nat, s.heap.size ≤ q → A q := fun q h => by rw [← hAe]; exact Or.inr h
  have hS : va_S A s.heap s.heap [] := va_S.rf
  obtain ⟨hU9, hN9, hc1, hc2, hc3, hd1, hd2, hd3, hs1, hs2, hs3⟩ := id hT
  have hl := lv_entry ([.ref h0, .int p0, .long p1]) (n := 5) (Nat.le_of_ble_eq_true rfl)
  rw [lg_entry_eq]
  generalize (lg_sl ([.ref h0, .int p0, .long p1]) ++ List.replicate (5 - (lg_sl ([.ref h0, .int p0, .long p1])).length) Slot.unset).toArray = ls at hl ⊢
  have hl : lv_has ls 5 [(0, .ref h0), (1, .int p0), (2, .long p1)] := hl
  refine lv_aload_n hx hb dL_set_0 rfl (lv_at hl 0 rfl) ?_
  refine lv_iload_n hx hb dL_set_1 rfl (lv_at hl 1 rfl) ?_
  refine lv_lload_n hx hb dL_set_2 rfl (lv_at hl 2 rfl) ?_
  have hF := va_free (wc := (Wc h0 h1 cA u)) hD hS hA [0, 1] rfl
  have hPc := hP.sub (ws' := (Wc h0 h1 cA u)) [0, 1] rfl
  have hDc := hD.sub (ws' := (Wc h0 h1 cA u)) [0, 1] (by decide) rfl
  have hKc := hK.sub (tys' := [(cA, .long)]) [0] rfl
  refine vx_callv (vx_runV (As := [.int p0, .long p1]) (rest := []) ⟨hx, hb, hml, hown, hts⟩ (mt_X3_set l hl9 dC dI h0 h1 cA s.heap.size u p0 p1) (cwV 2 hts gL_15_X3_set rfl rfl rfl (by decide +kernel) ⟨Nat.le_of_ble_eq_true rfl, Nat.le_of_ble_eq_true rfl⟩) (tw_V hKc hPc hDc hT hS hF (ci := 0) (q0 := 0) rfl rfl rfl) rfl rfl hl.1 rfl (lv_room (Nat.le_of_ble_eq_true rfl)) dL_set_3 ⟨Nat.le_of_ble_eq_true rfl, Nat.le_of_ble_eq_true rfl⟩) hS (fun q _ h => hF q h) hF (fun q _ h => hF q h) (fun E9 ce q9 u9 t H locs ht hvm hpx hBX hz hk hS hce hcv hcl => ?_) (fun v_ t H locs ht hvm hw hB hz hk hS => ?_)
  · obtain ⟨rfl, hP1, hK1, hD1⟩ := hBX
    rw [ht] at hP1
    obtain ⟨hP2, hD2⟩ := va_join (wr := []) (w1 := (Wc h0 h1 cA u)) hP hD [0, 1] [] rfl rfl (by decide) (by decide) hk hF hP1 hD1
    refine vx_catch (own := RL) (name := "java/lang/IndexOutOfBoundsException") (E := "java/lang/IndexOutOfBoundsException") hown [] ⟨0, 6, 9, 13⟩ [] (by rw [hTab]; rfl) (fun z hz => nomatch hz) (by decide) (by decide) (hts _ qw_230) (va_Nw.use rfl hc1) hce hcv hcl ?_
    refine lv_astore (lv' := [(4, .ref q9)]) hx hb dL_set_9 (lv_sub hl [] rfl) (by decide) rfl (fun ls hl => ?_)
    refine lv_iconst (v := (1 : Int32)) hx hb dL_set_11 (by decide) ?_
    exact W.iret (v := (1 : Int32)) hx hb hr (fun t ht hW => ⟨⟨(1 : Int32), u, rfl, ⟨by unfold h_set; rw [if_pos hpx], by unfold h_set; rw [if_pos hpx]⟩, by rw [ht]; exact hP2.sub (ws' := (Wc h0 h1 cA u)) [0, 1] rfl, va_K.moved hW.alike hK, hD2.sub (ws' := (Wc h0 h1 cA u)) [0, 1] (by decide) rfl⟩, hS.F ht⟩) hS.2.2 dL_set_12
  · obtain ⟨hE, rfl⟩ := hw
    obtain ⟨hP1, hK1, hD1⟩ := hB
    rw [ht] at hP1
    obtain ⟨hP2, hD2⟩ := va_join (wr := []) (w1 := (Wc h0 h1 cA (f_X3_set u p0 p1))) hP hD [0, 1] [] rfl rfl (by decide) (by decide) hk hF hP1 hD1
    refine W.eq (g2 := F0 m 6 ls []) rfl ?_
    refine lv_goto (tgt := 13) hx hb dL_set_6 (by decide) ?_
    refine lv_iconst (v := (0 : Int32)) hx hb dL_set_13 (by decide) ?_
    have hn : ¬ (e_X3_set u p0 p1) = true := by rw [hE]; decide
    exact W.iret (v := (0 : Int32)) hx hb hr (fun t ht hW => ⟨⟨(0 : Int32), (f_X3_set u p0 p1), rfl, ⟨by unfold h_set; rw [if_neg hn], by unfold h_set; rw [if_neg hn]⟩, by rw [ht]; exact hP2.sub (ws' := (Wc h0 h1 cA (f_X3_set u p0 p1))) [0, 1] rfl, va_K.moved hW.alike hK, hD2.sub (ws' := (Wc h0 h1 cA (f_X3_set u p0 p1))) [0, 1] (by decide) rfl⟩, hS.F ht⟩) hS.2.2 dL_set_14

def h_run (u : ScT) (z : Nat → Int64) (p0 : Int32) (p1 : Int32) : Int32 × ScT × (Nat → Int64) :=
  if (e_X3_run u p0 p1) = true then ((1 : Int32), (u, z)) else ((0 : Int32), ((f_X3_run u p0 p1).2, vp_updL z ((0 : Int32).toNatClampNeg) (f_X3_run u p0 p1).1.toInt64))
set_option maxHeartbeats 4000000 in
set_option maxRecDepth 100000 in
theorem mt_L_run (l : Launch) (hl9 : l.stackTraces = false) (dC : Nat → ClassId) (dI : Nat → Nat → Nat) (h0 h1 : Nat) (cA : ClassId) (o0 : Nat) (cO : ClassId) (sz : Nat) (u : ScT) (z : Nat → Int64) (p0 : Int32) (p1 : Int32) : Met l yL_run wsL_run ({ frames := 8, cells := 1, slots := 6, locals := 189 }) (tw_P [.ref h0, .int p0, .int p1, .ref o0] (dC, dI) vwCl (Wl h0 h1 cA o0 cO (u, z)) [(cA, .long), (cO, .long)] sz) (va_Qi (fun r v => r = (h_run u z p0 p1).1 ∧ v = (h_run u z p0 p1).2) (wr_B (dC, dI) vwCl [(cA, .long), (cO, .long)] (va_A (Wl h0 h1 cA o0 cO (u, z)) sz) (Wl h0 h1 cA o0 cO)) (va_A (Wl h0 h1 cA o0 cO (u, z)) sz)) 1 6 (va_A (Wl h0 h1 cA o0 cO (u, z)) sz) := by
  refine va_MetW (cc := cL_run) (maxL := 5) (ret := (some .int)) (by decide) rfl ?_
  intro p e s m args below meth c s₁ B hml hv
  obtain ⟨rfl, hsz, hP, hK, hD0, hT⟩ := hv
  have hx := B.exec
  have hb := B.bytes
  have hr := B.returns
  have hts0 := atoms_spec (ws := wsL_run) B.pre
  have hts := fun (w : Cond) (h : w ∈ lw_G) => hts0 w (List.mem_cons_of_mem _ h)
  have hown : s.vm.findClass RL = some m.cls := findClass_of_methodNamed B.named
  have hTab : c.exceptionTable.toList = tableOf [(0, 10, 13, 23)] := vx_table (x := yL_run) B (hts0 _ List.mem_cons_self)
  subst hsz
  have hD := hD0.self (sz := s.heap.size)
  generalize hAe : va_A (Wl h0 h1 cA o0 cO (u, z)) s.heap.size = A at hD hT ⊢
  have hA : ∀ q : Nat, s.heap.size ≤ q → A q := fun q h => by rw [← hAe]; exact Or.inr h
  have hS : va_S A s.heap s.heap [] := va_S.rf
  obtain ⟨hU9, hN9, hc1, hc2, hc3, hd1, hd2, hd3, hs1, hs2, hs3⟩ := id hT
  have hl := lv_entry ([.ref h0, .int p0, .int p1, .ref o0]) (n := 5) (Nat.le_of_ble_eq_true rfl)
  rw [lg_entry_eq]
  generalize (lg_sl ([.ref h0, .int p0, .int p1, .ref o0]) ++ List.replicate (5 - (lg_sl ([.ref h0, .int p0, .int p1, .ref o0])).length) Slot.unset).toArray = ls at hl ⊢
  have hl : lv_has ls 5 [(0, .ref h0), (1, .int p0), (2, .int p1), (3, .ref o0)] := hl
  refine lv_aload_n hx hb dL_run_0 rfl (lv_at hl 3 rfl) ?_
  refine lv_iconst (v := (0 : Int32)) hx hb dL_run_1 (by decide) ?_
  refine lv_aload_n hx hb dL_run_2 rfl (lv_at hl 0 rfl) ?_
  refine lv_iload_n hx hb dL_run_3 rfl (lv_at hl 1 rfl) ?_
  refine lv_iload_n hx hb dL_run_4 rfl (lv_at hl 2 rfl) ?_
  have hF := va_free (wc := (Wc h0 h1 cA u)) hD hS hA [0, 1] rfl
  have hPc := hP.sub (ws' := (Wc h0 h1 cA u)) [0, 1] rfl
  have hDc := hD.sub (ws' := (Wc h0 h1 cA u)) [0, 1] (by decide) rfl
  have hKc := hK.sub (tys' := [(cA, .long)]) [0] rfl
  refine vx_calli (vx_runV (As := [.int p0, .int p1]) (rest := [.int (0 : Int32), .ref o0]) ⟨hx, hb, hml, hown, hts⟩ (mt_X3_run l hl9 dC dI h0 h1 cA s.heap.size u p0 p1) (cwV 2 hts gL_19_X3_run rfl rfl rfl (by decide +kernel) ⟨Nat.le_of_ble_eq_true rfl, Nat.le_of_ble_eq_true rfl⟩) (tw_V hKc hPc hDc hT hS hF (ci := 0) (q0 := 0) rfl rfl rfl) rfl rfl hl.1 rfl (lv_room (Nat.le_of_ble_eq_true rfl)) dL_run_5 ⟨Nat.le_of_ble_eq_true rfl, Nat.le_of_ble_eq_true rfl⟩) hS (fun q _ h => hF q h) hF (fun q _ h => hF q h) (fun E9 ce q9 u9 t H locs ht hvm hpx hBX hz hk hS hce hcv hcl => ?_) (fun r_ v_ t H locs ht hvm hw hB hz hk hS => ?_)
  · obtain ⟨rfl, hP1, hK1, hD1⟩ := hBX
    rw [ht] at hP1
    obtain ⟨hP2, hD2⟩ := va_join (wr := [(o0, .inl (cO, 1, .inr (.inl z)))]) (w1 := (Wc h0 h1 cA u)) hP hD [0, 1] [2] rfl rfl (by decide) (by decide) hk hF hP1 hD1
    refine vx_catch (own := RL) (name := "java/lang/IllegalArgumentException") (E := "java/lang/IllegalArgumentException") hown [] ⟨0, 10, 13, 23⟩ [] (by rw [hTab]; rfl) (fun z hz => nomatch hz) (by decide) (by decide) (hts _ qw_239) (va_Nw.use rfl hc2) hce hcv hcl ?_
    refine lv_astore (lv' := [(4, .ref q9)]) hx hb dL_run_13 (lv_sub hl [] rfl) (by decide) rfl (fun ls hl => ?_)
    refine lv_iconst (v := (1 : Int32)) hx hb dL_run_15 (by decide) ?_
    exact W.iret (v := (1 : Int32)) hx hb hr (fun t ht hW => ⟨⟨(1 : Int32), (u, z), rfl, ⟨by unfold h_run; rw [if_pos hpx], by unfold h_run; rw [if_pos hpx]⟩, by rw [ht]; exact hP2.sub (ws' := (Wl h0 h1 cA o0 cO (u, z))) [1, 2, 0] rfl, va_K.moved hW.alike hK, hD2.sub (ws' := (Wl h0 h1 cA o0 cO (u, z))) [1, 2, 0] (by decide) rfl⟩, hS.F ht⟩) hS.2.2 dL_run_16
  · obtain ⟨hE, rfl, rfl⟩ := hw
    obtain ⟨hP1, hK1, hD1⟩ := hB
    rw [ht] at hP1
    obtain ⟨hP2, hD2⟩ := va_join (wr := [(o0, .inl (cO, 1, .inr (.inl z)))]) (w1 := (Wc h0 h1 cA (f_X3_run u p0 p1).2)) hP hD [0, 1] [2] rfl rfl (by decide) (by decide) hk hF hP1 hD1
    refine W.eq (g2 := F0 m 8 ls [.int (f_X3_run u p0 p1).1, .int (0 : Int32), .ref o0]) rfl ?_
    refine lv_i2l (v := (f_X3_run u p0 p1).1.toInt64) hx hb dL_run_8 rfl ?_
    refine va_last hx hb hK hP2 hD2 hS 0 1 rfl rfl (by unfold vp_in; decide) dL_run_9 (fun H locs hP2 hD2 hS => ?_)
    refine lv_goto (tgt := 17) hx hb dL_run_10 (by decide) ?_
    refine lv_iconst (v := (0 : Int32)) hx hb dL_run_17 (by decide) ?_
    have hn : ¬ (e_X3_run u p0 p1) = true := by rw [hE]; decide
    exact W.iret (v := (0 : Int32)) hx hb hr (fun t ht hW => ⟨⟨(0 : Int32), ((f_X3_run u p0 p1).2, vp_updL z ((0 : Int32).toNatClampNeg) (f_X3_run u p0 p1).1.toInt64), rfl, ⟨by unfold h_run; rw [if_neg hn], by unfold h_run; rw [if_neg hn]⟩, by rw [ht]; exact hP2.sub (ws' := (Wl h0 h1 cA o0 cO ((f_X3_run u p0 p1).2, vp_updL z ((0 : Int32).toNatClampNeg) (f_X3_run u p0 p1).1.toInt64))) [1, 2, 0] rfl, va_K.moved hW.alike hK, hD2.sub (ws' := (Wl h0 h1 cA o0 cO ((f_X3_run u p0 p1).2, vp_updL z ((0 : Int32).toNatClampNeg) (f_X3_run u p0 p1).1.toInt64))) [1, 2, 0] (by decide) rfl⟩, hS.F ht⟩) hS.2.2 dL_run_18

def h_finish (u : ScT) (z : Nat → Int64) (p0 : Int32) (p1 : Int64) : Int32 × ScT × (Nat → Int64) :=
  if (e_X3_finish u p0 p1) = true then ((1 : Int32), (u, z)) else ((0 : Int32), ((f_X3_finish u p0 p1).2, vp_updL z ((0 : Int32).toNatClampNeg) (f_X3_finish u p0 p1).1.toInt64))
set_option maxHeartbeats 4000000 in
set_option maxRecDepth 100000 in
theorem mt_L_finish (l : Launch) (hl9 : l.stackTraces = false) (dC : Nat → ClassId) (dI : Nat → Nat → Nat) (h0 h1 : Nat) (cA : ClassId) (o0 : Nat) (cO : ClassId) (sz : Nat) (u : ScT) (z : Nat → Int64) (p0 : Int32) (p1 : Int64) : Met l yL_finish wsL_finish ({ frames := 7, cells := 1, slots := 6, locals := 106 }) (tw_P [.ref h0, .int p0, .long p1, .ref o0] (dC, dI) vwCl (Wl h0 h1 cA o0 cO (u, z)) [(cA, .long), (cO, .long)] sz) (va_Qi (fun r v => r = (h_finish u z p0 p1).1 ∧ v = (h_finish u z p0 p1).2) (wr_B (dC, dI) vwCl [(cA, .long), (cO, .long)] (va_A (Wl h0 h1 cA o0 cO (u, z)) sz) (Wl h0 h1 cA o0 cO)) (va_A (Wl h0 h1 cA o0 cO (u, z)) sz)) 1 6 (va_A (Wl h0 h1 cA o0 cO (u, z)) sz) := by
  refine va_MetW (cc := cL_finish) (maxL := 6) (ret := (some .int)) (by decide) rfl ?_
  intro p e s m args below meth c s₁ B hml hv
  obtain ⟨rfl, hsz, hP, hK, hD0, hT⟩ := hv
  have hx := B.exec
  have hb := B.bytes
  have hr := B.returns
  have hts0 := atoms_spec (ws := wsL_finish) B.pre
  have hts := fun (w : Cond) (h : w ∈ lw_G) => hts0 w (List.mem_cons_of_mem _ h)
  have hown : s.vm.findClass RL = some m.cls := findClass_of_methodNamed B.named
  have hTab : c.exceptionTable.toList = tableOf [(0, 11, 14, 29)] := vx_table (x := yL_finish) B (hts0 _ List.mem_cons_self)
  subst hsz
  have hD := hD0.self (sz := s.heap.size)
  generalize hAe : va_A (Wl h0 h1 cA o0 cO (u, z)) s.heap.size = A at hD hT ⊢
  have hA : ∀ q : Nat, s.heap.size ≤ q → A q := fun q h => by rw [← hAe]; exact Or.inr h
  have hS : va_S A s.heap s.heap [] := va_S.rf
  obtain ⟨hU9, hN9, hc1, hc2, hc3, hd1, hd2, hd3, hs1, hs2, hs3⟩ := id hT
  have hl := lv_entry ([.ref h0, .int p0, .long p1, .ref o0]) (n := 6) (Nat.le_of_ble_eq_true rfl)
  rw [lg_entry_eq]
  generalize (lg_sl ([.ref h0, .int p0, .long p1, .ref o0]) ++ List.replicate (6 - (lg_sl ([.ref h0, .int p0, .long p1, .ref o0])).length) Slot.unset).toArray = ls at hl ⊢
  have hl : lv_has ls 6 [(0, .ref h0), (1, .int p0), (2, .long p1), (4, .ref o0)] := hl
  refine lv_aload hx hb dL_finish_0 (lv_at hl 3 rfl) ?_
  refine lv_iconst (v := (0 : Int32)) hx hb dL_finish_2 (by decide) ?_
  refine lv_aload_n hx hb dL_finish_3 rfl (lv_at hl 0 rfl) ?_
  refine lv_iload_n hx hb dL_finish_4 rfl (lv_at hl 1 rfl) ?_
  refine lv_lload_n hx hb dL_finish_5 rfl (lv_at hl 2 rfl) ?_
  have hF := va_free (wc := (Wc h0 h1 cA u)) hD hS hA [0, 1] rfl
  have hPc := hP.sub (ws' := (Wc h0 h1 cA u)) [0, 1] rfl
  have hDc := hD.sub (ws' := (Wc h0 h1 cA u)) [0, 1] (by decide) rfl
  have hKc := hK.sub (tys' := [(cA, .long)]) [0] rfl
  refine vx_calli (vx_runV (As := [.int p0, .long p1]) (rest := [.int (0 : Int32), .ref o0]) ⟨hx, hb, hml, hown, hts⟩ (mt_X3_finish l hl9 dC dI h0 h1 cA s.heap.size u p0 p1) (cwV 2 hts gL_25_X3_finish rfl rfl rfl (by decide +kernel) ⟨Nat.le_of_ble_eq_true rfl, Nat.le_of_ble_eq_true rfl⟩) (tw_V hKc hPc hDc hT hS hF (ci := 0) (q0 := 0) rfl rfl rfl) rfl rfl hl.1 rfl (lv_room (Nat.le_of_ble_eq_true rfl)) dL_finish_6 ⟨Nat.le_of_ble_eq_true rfl, Nat.le_of_ble_eq_true rfl⟩) hS (fun q _ h => hF q h) hF (fun q _ h => hF q h) (fun E9 ce q9 u9 t H locs ht hvm hpx hBX hz hk hS hce hcv hcl => ?_) (fun r_ v_ t H locs ht hvm hw hB hz hk hS => ?_)
  · obtain ⟨rfl, hP1, hK1, hD1⟩ := hBX
    rw [ht] at hP1
    obtain ⟨hP2, hD2⟩ := va_join (wr := [(o0, .inl (cO, 1, .inr (.inl z)))]) (w1 := (Wc h0 h1 cA u)) hP hD [0, 1] [2] rfl rfl (by decide) (by decide) hk hF hP1 hD1
    refine vx_catch (own := RL) (name := "java/lang/IllegalStateException") (E := "java/lang/IllegalStateException") hown [] ⟨0, 11, 14, 29⟩ [] (by rw [hTab]; rfl) (fun z hz => nomatch hz) (by decide) (by decide) (hts _ qw_244) (va_Nw.use rfl hc3) hce hcv hcl ?_
    refine lv_astore (lv' := [(5, .ref q9)]) hx hb dL_finish_14 (lv_sub hl [] rfl) (by decide) rfl (fun ls hl => ?_)
    refine lv_iconst (v := (1 : Int32)) hx hb dL_finish_16 (by decide) ?_
    exact W.iret (v := (1 : Int32)) hx hb hr (fun t ht hW => ⟨⟨(1 : Int32), (u, z), rfl, ⟨by unfold h_finish; rw [if_pos hpx], by unfold h_finish; rw [if_pos hpx]⟩, by rw [ht]; exact hP2.sub (ws' := (Wl h0 h1 cA o0 cO (u, z))) [1, 2, 0] rfl, va_K.moved hW.alike hK, hD2.sub (ws' := (Wl h0 h1 cA o0 cO (u, z))) [1, 2, 0] (by decide) rfl⟩, hS.F ht⟩) hS.2.2 dL_finish_17
  · obtain ⟨hE, rfl, rfl⟩ := hw
    obtain ⟨hP1, hK1, hD1⟩ := hB
    rw [ht] at hP1
    obtain ⟨hP2, hD2⟩ := va_join (wr := [(o0, .inl (cO, 1, .inr (.inl z)))]) (w1 := (Wc h0 h1 cA (f_X3_finish u p0 p1).2)) hP hD [0, 1] [2] rfl rfl (by decide) (by decide) hk hF hP1 hD1
    refine W.eq (g2 := F0 m 9 ls [.int (f_X3_finish u p0 p1).1, .int (0 : Int32), .ref o0]) rfl ?_
    refine lv_i2l (v := (f_X3_finish u p0 p1).1.toInt64) hx hb dL_finish_9 rfl ?_
    refine va_last hx hb hK hP2 hD2 hS 0 1 rfl rfl (by unfold vp_in; decide) dL_finish_10 (fun H locs hP2 hD2 hS => ?_)
    refine lv_goto (tgt := 18) hx hb dL_finish_11 (by decide) ?_
    refine lv_iconst (v := (0 : Int32)) hx hb dL_finish_18 (by decide) ?_
    have hn : ¬ (e_X3_finish u p0 p1) = true := by rw [hE]; decide
    exact W.iret (v := (0 : Int32)) hx hb hr (fun t ht hW => ⟨⟨(0 : Int32), ((f_X3_finish u p0 p1).2, vp_updL z ((0 : Int32).toNatClampNeg) (f_X3_finish u p0 p1).1.toInt64), rfl, ⟨by unfold h_finish; rw [if_neg hn], by unfold h_finish; rw [if_neg hn]⟩, by rw [ht]; exact hP2.sub (ws' := (Wl h0 h1 cA o0 cO ((f_X3_finish u p0 p1).2, vp_updL z ((0 : Int32).toNatClampNeg) (f_X3_finish u p0 p1).1.toInt64))) [1, 2, 0] rfl, va_K.moved hW.alike hK, hD2.sub (ws' := (Wl h0 h1 cA o0 cO ((f_X3_finish u p0 p1).2, vp_updL z ((0 : Int32).toNatClampNeg) (f_X3_finish u p0 p1).1.toInt64))) [1, 2, 0] (by decide) rfl⟩, hS.F ht⟩) hS.2.2 dL_finish_19
