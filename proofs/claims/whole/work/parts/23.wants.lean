def f_X3_fence (u : ScT) (p0 : Int32) : Int32 × ScT :=
  if (f_X2_f p0) ≤ (1 : Int32) then
    ((1 : Int32), (f_X3_complete u (u.2.1 + u.2.2.2.1.toInt64)).2)
  else
    ((-1 : Int32), u)
set_option maxHeartbeats 4000000 in
set_option maxRecDepth 100000 in
theorem mt_X3_fence (l : Launch) (dC : Nat → ClassId) (dI : Nat → Nat → Nat) (h0 h1 : Nat) (cA : ClassId) (sz : Nat) (u : ScT) (p0 : Int32) : Met l yX3_fence wsX3_fence ({ frames := 2, cells := 0, slots := 0, locals := 42 }) (wr_P [.ref h0, .int p0] (dC, dI) vwCl (Wc h0 h1 cA u) [(cA, .long)] sz) (va_Qi (fun r v => r = (f_X3_fence u p0).1 ∧ v = (f_X3_fence u p0).2) (wr_B (dC, dI) vwCl [(cA, .long)] (va_A (Wc h0 h1 cA u) sz) (Wc h0 h1 cA)) (va_A (Wc h0 h1 cA u) sz)) 0 0 (va_A (Wc h0 h1 cA u) sz) := by
  refine Met.ofW (cc := cX3_fence) (maxL := 2) (ret := (some .int)) (by decide) rfl ?_
  intro p e s m args below meth c s₁ B hml hv
  obtain ⟨rfl, hsz, hP, hK, hD0⟩ := hv
  have hx := B.exec
  have hb := B.bytes
  have hr := B.returns
  have hts0 := atoms_spec (ws := wsX3_fence) B.pre
  have hts := fun (w : Cond) (h : w ∈ lw_G) => hts0 w (List.mem_cons_of_mem _ h)
  have hown : s.vm.findClass RX3 = some m.cls := findClass_of_methodNamed B.named
  have hlocks := B.notSynchronized
  subst hsz
  have hD := hD0.self (sz := s.heap.size)
  generalize hAe : va_A (Wc h0 h1 cA u) s.heap.size = A at hD ⊢
  have hA : ∀ q : Nat, s.heap.size ≤ q → A q := fun q h => by rw [← hAe]; exact Or.inr h
  have hS : va_S A s.heap s.heap [] := va_S.rf
  have hl := lv_entry ([.ref h0, .int p0]) (n := 2) (Nat.le_of_ble_eq_true rfl)
  rw [lg_entry_eq]
  generalize (lg_sl ([.ref h0, .int p0]) ++ List.replicate (2 - (lg_sl ([.ref h0, .int p0])).length) Slot.unset).toArray = ls at hl ⊢
  have hl : lv_has ls 2 [(0, .ref h0), (1, .int p0)] := hl
  refine lv_iload_n hx hb dX3_fence_0 rfl (lv_at hl 1 rfl) ?_
  refine W.callV (W.runS (As := [.int p0]) (rest := []) ⟨hx, hb, hml, hown, hts⟩ (mt_X2_f l p0) (va_cwS 1 hts gX3_157_X2_f rfl rfl rfl (by decide +kernel) ⟨Nat.le_of_ble_eq_true rfl, Nat.le_of_ble_eq_true rfl⟩) preEq rfl rfl hl.1 rfl (lv_room (Nat.le_of_ble_eq_true rfl)) dX3_fence_1 ⟨Nat.le_of_ble_eq_true rfl, Nat.le_of_ble_eq_true rfl⟩) ?_
  refine W.eq (g2 := F0 m 4 ls [.int (f_X2_f p0)]) rfl ?_
  refine lv_iconst (v := (1 : Int32)) hx hb dX3_fence_4 (by decide) ?_
  refine lv_icmp_le (tgt := 10) hx hb dX3_fence_5 (by decide) (fun c1 => ?_) (fun c1 => ?_)
  · refine lv_aload_n hx hb dX3_fence_10 rfl (lv_at hl 0 rfl) ?_
    refine lv_aload_n hx hb dX3_fence_11 rfl (lv_at hl 0 rfl) ?_
    refine va_get (D := (dC, dI)) (ci := 0) (v := .long u.2.1) (C := RX3) (T := TX3) (N := 10) hx hb hts inX3 hown hK hP 0 rfl rfl 1 (by decide) (hts _ qw_64) (fun _ h9 => h9) rfl dX3_fence_12 ?_
    refine lv_aload_n hx hb dX3_fence_15 rfl (lv_at hl 0 rfl) ?_
    refine va_get (D := (dC, dI)) (ci := 0) (v := .int u.2.2.2.1) (C := RX3) (T := TX3) (N := 10) hx hb hts inX3 hown hK hP 0 rfl rfl 3 (by decide) (hts _ qw_77) (fun _ h9 => h9) rfl dX3_fence_16 ?_
    refine lv_i2l (v := u.2.2.2.1.toInt64) hx hb dX3_fence_19 rfl ?_
    refine lv_ladd hx hb dX3_fence_20 ?_
    refine wr_calli (wr := []) (va_runV (As := [.long (u.2.1 + u.2.2.2.1.toInt64)]) (rest := []) ⟨hx, hb, hml, hown, hts⟩ (mt_X3_complete l dC dI h0 h1 cA s.heap.size u (u.2.1 + u.2.2.2.1.toInt64)) (cwV 1 hts gX3_141_X3_complete rfl rfl rfl (by decide +kernel) ⟨Nat.le_of_ble_eq_true rfl, Nat.le_of_ble_eq_true rfl⟩) (wr_V hK hP hD (ci := 0) (q0 := 0) rfl rfl rfl) rfl rfl hl.1 rfl (lv_room (Nat.le_of_ble_eq_true rfl)) dX3_fence_21 ⟨Nat.le_of_ble_eq_true rfl, Nat.le_of_ble_eq_true rfl⟩) hS hP hD hA [0, 1] [] rfl rfl (by decide) (by decide) (fun r_ v_ H locs hw hP hD hS => ?_)
    obtain ⟨rfl, rfl⟩ := hw
    refine W.eq (g2 := F0 m 24 ls [.int (f_X3_complete u (u.2.1 + u.2.2.2.1.toInt64)).1]) rfl ?_
    have hP : va_P (dC, dI) vwCl (Wc h0 h1 cA (f_X3_complete u (u.2.1 + u.2.2.2.1.toInt64)).2) H := hP
    have hD : va_D A (Wc h0 h1 cA (f_X3_complete u (u.2.1 + u.2.2.2.1.toInt64)).2) := hD
    refine lv_pop hx hb dX3_fence_24 rfl ?_
    refine lv_iconst (v := (1 : Int32)) hx hb dX3_fence_25 (by decide) ?_
    have hF : f_X3_fence u p0 = ((1 : Int32), (f_X3_complete u (u.2.1 + u.2.2.2.1.toInt64)).2) := by unfold f_X3_fence; rw [if_pos c1]
    exact W.iret (v := (1 : Int32)) hx hb hr (fun t ht hW => ⟨⟨(1 : Int32), (f_X3_complete u (u.2.1 + u.2.2.2.1.toInt64)).2, rfl, ⟨(congrArg Prod.fst hF).symm, (congrArg Prod.snd hF).symm⟩, by rw [ht]; exact hP, va_K.moved hW.alike hK, hD⟩, hS.F ht⟩) hS.2.2 dX3_fence_26
  · refine lv_iconst (v := (-1 : Int32)) hx hb dX3_fence_8 (by decide) ?_
    have hF : f_X3_fence u p0 = ((-1 : Int32), u) := by unfold f_X3_fence; rw [if_neg c1]
    exact W.iret (v := (-1 : Int32)) hx hb hr (fun t ht hW => ⟨⟨(-1 : Int32), u, rfl, ⟨(congrArg Prod.fst hF).symm, (congrArg Prod.snd hF).symm⟩, by rw [ht]; exact hP, va_K.moved hW.alike hK, hD⟩, hS.F ht⟩) hS.2.2 dX3_fence_9

def f_X3_load (u : ScT) (p0 : Int32) : Int32 × ScT :=
  if (f_X2_f p0) ≤ (6 : Int32) then
    if (f_X2_f p0) ≤ (3 : Int32) then
      ((f_X3_want u (2 : Int32) ((f_X3_x u p0) + (f_X2_immediateI p0).toInt64) ((1 : Int32) <<< (((f_X2_f p0) &&& (3 : Int32)) &&& 31)) (0 : Int64) (0 : Int32) (f_X2_d p0)).1, (f_X3_want u (2 : Int32) ((f_X3_x u p0) + (f_X2_immediateI p0).toInt64) ((1 : Int32) <<< (((f_X2_f p0) &&& (3 : Int32)) &&& 31)) (0 : Int64) (0 : Int32) (f_X2_d p0)).2)
    else
      ((f_X3_want u (2 : Int32) ((f_X3_x u p0) + (f_X2_immediateI p0).toInt64) ((1 : Int32) <<< (((f_X2_f p0) &&& (3 : Int32)) &&& 31)) (0 : Int64) (1 : Int32) (f_X2_d p0)).1, (f_X3_want u (2 : Int32) ((f_X3_x u p0) + (f_X2_immediateI p0).toInt64) ((1 : Int32) <<< (((f_X2_f p0) &&& (3 : Int32)) &&& 31)) (0 : Int64) (1 : Int32) (f_X2_d p0)).2)
  else
    ((-1 : Int32), u)
set_option maxHeartbeats 4000000 in
set_option maxRecDepth 100000 in
theorem mt_X3_load (l : Launch) (dC : Nat → ClassId) (dI : Nat → Nat → Nat) (h0 h1 : Nat) (cA : ClassId) (sz : Nat) (u : ScT) (p0 : Int32) : Met l yX3_load wsX3_load ({ frames := 3, cells := 0, slots := 0, locals := 63 }) (wr_P [.ref h0, .int p0] (dC, dI) vwCl (Wc h0 h1 cA u) [(cA, .long)] sz) (va_Qi (fun r v => r = (f_X3_load u p0).1 ∧ v = (f_X3_load u p0).2) (wr_B (dC, dI) vwCl [(cA, .long)] (va_A (Wc h0 h1 cA u) sz) (Wc h0 h1 cA)) (va_A (Wc h0 h1 cA u) sz)) 0 0 (va_A (Wc h0 h1 cA u) sz) := by
  refine Met.ofW (cc := cX3_load) (maxL := 3) (ret := (some .int)) (by decide) rfl ?_
  intro p e s m args below meth c s₁ B hml hv
  obtain ⟨rfl, hsz, hP, hK, hD0⟩ := hv
  have hx := B.exec
  have hb := B.bytes
  have hr := B.returns
  have hts0 := atoms_spec (ws := wsX3_load) B.pre
  have hts := fun (w : Cond) (h : w ∈ lw_G) => hts0 w (List.mem_cons_of_mem _ h)
  have hown : s.vm.findClass RX3 = some m.cls := findClass_of_methodNamed B.named
  have hlocks := B.notSynchronized
  subst hsz
  have hD := hD0.self (sz := s.heap.size)
  generalize hAe : va_A (Wc h0 h1 cA u) s.heap.size = A at hD ⊢
  have hA : ∀ q : Nat, s.heap.size ≤ q → A q := fun q h => by rw [← hAe]; exact Or.inr h
  have hS : va_S A s.heap s.heap [] := va_S.rf
  have hl := lv_entry ([.ref h0, .int p0]) (n := 3) (Nat.le_of_ble_eq_true rfl)
  rw [lg_entry_eq]
  generalize (lg_sl ([.ref h0, .int p0]) ++ List.replicate (3 - (lg_sl ([.ref h0, .int p0])).length) Slot.unset).toArray = ls at hl ⊢
  have hl : lv_has ls 3 [(0, .ref h0), (1, .int p0)] := hl
  refine lv_iload_n hx hb dX3_load_0 rfl (lv_at hl 1 rfl) ?_
  refine W.callV (W.runS (As := [.int p0]) (rest := []) ⟨hx, hb, hml, hown, hts⟩ (mt_X2_f l p0) (va_cwS 1 hts gX3_157_X2_f rfl rfl rfl (by decide +kernel) ⟨Nat.le_of_ble_eq_true rfl, Nat.le_of_ble_eq_true rfl⟩) preEq rfl rfl hl.1 rfl (lv_room (Nat.le_of_ble_eq_true rfl)) dX3_load_1 ⟨Nat.le_of_ble_eq_true rfl, Nat.le_of_ble_eq_true rfl⟩) ?_
  refine W.eq (g2 := F0 m 4 ls [.int (f_X2_f p0)]) rfl ?_
  refine lv_istore_n (lv' := [(2, .int (f_X2_f p0)), (0, .ref h0), (1, .int p0)]) hx hb dX3_load_4 rfl hl (by decide) rfl (fun ls hl => ?_)
  refine lv_iload_n hx hb dX3_load_5 rfl (lv_at hl 0 rfl) ?_
  refine lv_bipush (v := (6 : Int32)) hx hb dX3_load_6 (by decide) ?_
  refine lv_icmp_le (tgt := 13) hx hb dX3_load_8 (by decide) (fun c1 => ?_) (fun c1 => ?_)
  · refine lv_aload_n hx hb dX3_load_13 rfl (lv_at hl 1 rfl) ?_
    refine lv_iconst (v := (2 : Int32)) hx hb dX3_load_14 (by decide) ?_
    refine lv_aload_n hx hb dX3_load_15 rfl (lv_at hl 1 rfl) ?_
    refine lv_iload_n hx hb dX3_load_16 rfl (lv_at hl 2 rfl) ?_
    refine W.callV (W.runV (As := [.int p0]) (rest := [.int (2 : Int32), .ref h0]) ⟨hx, hb, hml, hown, hts⟩ (mt_X3_x l dC dI h0 h1 cA u p0) (cwV 1 hts gX3_101_X3_x rfl rfl rfl (by decide +kernel) ⟨Nat.le_of_ble_eq_true rfl, Nat.le_of_ble_eq_true rfl⟩) (rd_V hK hP (ci := 0) (q0 := 0) rfl rfl rfl) rfl rfl hl.1 rfl (lv_room (Nat.le_of_ble_eq_true rfl)) dX3_load_17 ⟨Nat.le_of_ble_eq_true rfl, Nat.le_of_ble_eq_true rfl⟩) ?_
    refine W.eq (g2 := F0 m 20 ls [.long (f_X3_x u p0), .int (2 : Int32), .ref h0]) rfl ?_
    refine lv_iload_n hx hb dX3_load_20 rfl (lv_at hl 2 rfl) ?_
    refine W.callV (W.runS (As := [.int p0]) (rest := [.long (f_X3_x u p0), .int (2 : Int32), .ref h0]) ⟨hx, hb, hml, hown, hts⟩ (mt_X2_immediateI l p0) (va_cwS 1 hts gX3_160_X2_immediateI rfl rfl rfl (by decide +kernel) ⟨Nat.le_of_ble_eq_true rfl, Nat.le_of_ble_eq_true rfl⟩) preEq rfl rfl hl.1 rfl (lv_room (Nat.le_of_ble_eq_true rfl)) dX3_load_21 ⟨Nat.le_of_ble_eq_true rfl, Nat.le_of_ble_eq_true rfl⟩) ?_
    refine W.eq (g2 := F0 m 24 ls [.int (f_X2_immediateI p0), .long (f_X3_x u p0), .int (2 : Int32), .ref h0]) rfl ?_
    refine lv_i2l (v := (f_X2_immediateI p0).toInt64) hx hb dX3_load_24 rfl ?_
    refine lv_ladd hx hb dX3_load_25 ?_
    refine lv_iconst (v := (1 : Int32)) hx hb dX3_load_26 (by decide) ?_
    refine lv_iload_n hx hb dX3_load_27 rfl (lv_at hl 0 rfl) ?_
    refine lv_iconst (v := (3 : Int32)) hx hb dX3_load_28 (by decide) ?_
    refine lv_iand hx hb dX3_load_29 ?_
    refine lv_ishl hx hb dX3_load_30 ?_
    refine lv_lconst (v := (0 : Int64)) hx hb dX3_load_31 (by decide) ?_
    refine lv_iload_n hx hb dX3_load_32 rfl (lv_at hl 0 rfl) ?_
    refine lv_iconst (v := (3 : Int32)) hx hb dX3_load_33 (by decide) ?_
    refine lv_icmp_le (tgt := 41) hx hb dX3_load_34 (by decide) (fun c2 => ?_) (fun c2 => ?_)
    · refine lv_iconst (v := (0 : Int32)) hx hb dX3_load_41 (by decide) ?_
      refine lv_iload_n hx hb dX3_load_42 rfl (lv_at hl 2 rfl) ?_
      refine W.callV (W.runS (As := [.int p0]) (rest := [.int (0 : Int32), .long (0 : Int64), .int ((1 : Int32) <<< (((f_X2_f p0) &&& (3 : Int32)) &&& 31)), .long ((f_X3_x u p0) + (f_X2_immediateI p0).toInt64), .int (2 : Int32), .ref h0]) ⟨hx, hb, hml, hown, hts⟩ (mt_X2_d l p0) (va_cwS 1 hts gX3_105_X2_d rfl rfl rfl (by decide +kernel) ⟨Nat.le_of_ble_eq_true rfl, Nat.le_of_ble_eq_true rfl⟩) preEq rfl rfl hl.1 rfl (lv_room (Nat.le_of_ble_eq_true rfl)) dX3_load_43 ⟨Nat.le_of_ble_eq_true rfl, Nat.le_of_ble_eq_true rfl⟩) ?_
      refine W.eq (g2 := F0 m 46 ls [.int (f_X2_d p0), .int (0 : Int32), .long (0 : Int64), .int ((1 : Int32) <<< (((f_X2_f p0) &&& (3 : Int32)) &&& 31)), .long ((f_X3_x u p0) + (f_X2_immediateI p0).toInt64), .int (2 : Int32), .ref h0]) rfl ?_
      refine wr_calli (wr := []) (va_runV (As := [.int (2 : Int32), .long ((f_X3_x u p0) + (f_X2_immediateI p0).toInt64), .int ((1 : Int32) <<< (((f_X2_f p0) &&& (3 : Int32)) &&& 31)), .long (0 : Int64), .int (0 : Int32), .int (f_X2_d p0)]) (rest := []) ⟨hx, hb, hml, hown, hts⟩ (mt_X3_want l dC dI h0 h1 cA s.heap.size u (2 : Int32) ((f_X3_x u p0) + (f_X2_immediateI p0).toInt64) ((1 : Int32) <<< (((f_X2_f p0) &&& (3 : Int32)) &&& 31)) (0 : Int64) (0 : Int32) (f_X2_d p0)) (cwV 6 hts gX3_108_X3_want rfl rfl rfl (by decide +kernel) ⟨Nat.le_of_ble_eq_true rfl, Nat.le_of_ble_eq_true rfl⟩) (wr_V hK hP hD (ci := 0) (q0 := 0) rfl rfl rfl) rfl rfl hl.1 rfl (lv_room (Nat.le_of_ble_eq_true rfl)) dX3_load_46 ⟨Nat.le_of_ble_eq_true rfl, Nat.le_of_ble_eq_true rfl⟩) hS hP hD hA [0, 1] [] rfl rfl (by decide) (by decide) (fun r_ v_ H locs hw hP hD hS => ?_)
      obtain ⟨rfl, rfl⟩ := hw
      refine W.eq (g2 := F0 m 49 ls [.int (f_X3_want u (2 : Int32) ((f_X3_x u p0) + (f_X2_immediateI p0).toInt64) ((1 : Int32) <<< (((f_X2_f p0) &&& (3 : Int32)) &&& 31)) (0 : Int64) (0 : Int32) (f_X2_d p0)).1]) rfl ?_
      have hP : va_P (dC, dI) vwCl (Wc h0 h1 cA (f_X3_want u (2 : Int32) ((f_X3_x u p0) + (f_X2_immediateI p0).toInt64) ((1 : Int32) <<< (((f_X2_f p0) &&& (3 : Int32)) &&& 31)) (0 : Int64) (0 : Int32) (f_X2_d p0)).2) H := hP
      have hD : va_D A (Wc h0 h1 cA (f_X3_want u (2 : Int32) ((f_X3_x u p0) + (f_X2_immediateI p0).toInt64) ((1 : Int32) <<< (((f_X2_f p0) &&& (3 : Int32)) &&& 31)) (0 : Int64) (0 : Int32) (f_X2_d p0)).2) := hD
      have hF : f_X3_load u p0 = ((f_X3_want u (2 : Int32) ((f_X3_x u p0) + (f_X2_immediateI p0).toInt64) ((1 : Int32) <<< (((f_X2_f p0) &&& (3 : Int32)) &&& 31)) (0 : Int64) (0 : Int32) (f_X2_d p0)).1, (f_X3_want u (2 : Int32) ((f_X3_x u p0) + (f_X2_immediateI p0).toInt64) ((1 : Int32) <<< (((f_X2_f p0) &&& (3 : Int32)) &&& 31)) (0 : Int64) (0 : Int32) (f_X2_d p0)).2) := by unfold f_X3_load; rw [if_pos c1, if_pos c2]
      exact W.iret (v := (f_X3_want u (2 : Int32) ((f_X3_x u p0) + (f_X2_immediateI p0).toInt64) ((1 : Int32) <<< (((f_X2_f p0) &&& (3 : Int32)) &&& 31)) (0 : Int64) (0 : Int32) (f_X2_d p0)).1) hx hb hr (fun t ht hW => ⟨⟨(f_X3_want u (2 : Int32) ((f_X3_x u p0) + (f_X2_immediateI p0).toInt64) ((1 : Int32) <<< (((f_X2_f p0) &&& (3 : Int32)) &&& 31)) (0 : Int64) (0 : Int32) (f_X2_d p0)).1, (f_X3_want u (2 : Int32) ((f_X3_x u p0) + (f_X2_immediateI p0).toInt64) ((1 : Int32) <<< (((f_X2_f p0) &&& (3 : Int32)) &&& 31)) (0 : Int64) (0 : Int32) (f_X2_d p0)).2, rfl, ⟨(congrArg Prod.fst hF).symm, (congrArg Prod.snd hF).symm⟩, by rw [ht]; exact hP, va_K.moved hW.alike hK, hD⟩, hS.F ht⟩) hS.2.2 dX3_load_49
    · refine lv_iconst (v := (1 : Int32)) hx hb dX3_load_37 (by decide) ?_
      refine lv_goto (tgt := 42) hx hb dX3_load_38 (by decide) ?_
      refine lv_iload_n hx hb dX3_load_42 rfl (lv_at hl 2 rfl) ?_
      refine W.callV (W.runS (As := [.int p0]) (rest := [.int (1 : Int32), .long (0 : Int64), .int ((1 : Int32) <<< (((f_X2_f p0) &&& (3 : Int32)) &&& 31)), .long ((f_X3_x u p0) + (f_X2_immediateI p0).toInt64), .int (2 : Int32), .ref h0]) ⟨hx, hb, hml, hown, hts⟩ (mt_X2_d l p0) (va_cwS 1 hts gX3_105_X2_d rfl rfl rfl (by decide +kernel) ⟨Nat.le_of_ble_eq_true rfl, Nat.le_of_ble_eq_true rfl⟩) preEq rfl rfl hl.1 rfl (lv_room (Nat.le_of_ble_eq_true rfl)) dX3_load_43 ⟨Nat.le_of_ble_eq_true rfl, Nat.le_of_ble_eq_true rfl⟩) ?_
      refine W.eq (g2 := F0 m 46 ls [.int (f_X2_d p0), .int (1 : Int32), .long (0 : Int64), .int ((1 : Int32) <<< (((f_X2_f p0) &&& (3 : Int32)) &&& 31)), .long ((f_X3_x u p0) + (f_X2_immediateI p0).toInt64), .int (2 : Int32), .ref h0]) rfl ?_
      refine wr_calli (wr := []) (va_runV (As := [.int (2 : Int32), .long ((f_X3_x u p0) + (f_X2_immediateI p0).toInt64), .int ((1 : Int32) <<< (((f_X2_f p0) &&& (3 : Int32)) &&& 31)), .long (0 : Int64), .int (1 : Int32), .int (f_X2_d p0)]) (rest := []) ⟨hx, hb, hml, hown, hts⟩ (mt_X3_want l dC dI h0 h1 cA s.heap.size u (2 : Int32) ((f_X3_x u p0) + (f_X2_immediateI p0).toInt64) ((1 : Int32) <<< (((f_X2_f p0) &&& (3 : Int32)) &&& 31)) (0 : Int64) (1 : Int32) (f_X2_d p0)) (cwV 6 hts gX3_108_X3_want rfl rfl rfl (by decide +kernel) ⟨Nat.le_of_ble_eq_true rfl, Nat.le_of_ble_eq_true rfl⟩) (wr_V hK hP hD (ci := 0) (q0 := 0) rfl rfl rfl) rfl rfl hl.1 rfl (lv_room (Nat.le_of_ble_eq_true rfl)) dX3_load_46 ⟨Nat.le_of_ble_eq_true rfl, Nat.le_of_ble_eq_true rfl⟩) hS hP hD hA [0, 1] [] rfl rfl (by decide) (by decide) (fun r_ v_ H locs hw hP hD hS => ?_)
      obtain ⟨rfl, rfl⟩ := hw
      refine W.eq (g2 := F0 m 49 ls [.int (f_X3_want u (2 : Int32) ((f_X3_x u p0) + (f_X2_immediateI p0).toInt64) ((1 : Int32) <<< (((f_X2_f p0) &&& (3 : Int32)) &&& 31)) (0 : Int64) (1 : Int32) (f_X2_d p0)).1]) rfl ?_
      have hP : va_P (dC, dI) vwCl (Wc h0 h1 cA (f_X3_want u (2 : Int32) ((f_X3_x u p0) + (f_X2_immediateI p0).toInt64) ((1 : Int32) <<< (((f_X2_f p0) &&& (3 : Int32)) &&& 31)) (0 : Int64) (1 : Int32) (f_X2_d p0)).2) H := hP
      have hD : va_D A (Wc h0 h1 cA (f_X3_want u (2 : Int32) ((f_X3_x u p0) + (f_X2_immediateI p0).toInt64) ((1 : Int32) <<< (((f_X2_f p0) &&& (3 : Int32)) &&& 31)) (0 : Int64) (1 : Int32) (f_X2_d p0)).2) := hD
      have hF : f_X3_load u p0 = ((f_X3_want u (2 : Int32) ((f_X3_x u p0) + (f_X2_immediateI p0).toInt64) ((1 : Int32) <<< (((f_X2_f p0) &&& (3 : Int32)) &&& 31)) (0 : Int64) (1 : Int32) (f_X2_d p0)).1, (f_X3_want u (2 : Int32) ((f_X3_x u p0) + (f_X2_immediateI p0).toInt64) ((1 : Int32) <<< (((f_X2_f p0) &&& (3 : Int32)) &&& 31)) (0 : Int64) (1 : Int32) (f_X2_d p0)).2) := by unfold f_X3_load; rw [if_pos c1, if_neg c2]
      exact W.iret (v := (f_X3_want u (2 : Int32) ((f_X3_x u p0) + (f_X2_immediateI p0).toInt64) ((1 : Int32) <<< (((f_X2_f p0) &&& (3 : Int32)) &&& 31)) (0 : Int64) (1 : Int32) (f_X2_d p0)).1) hx hb hr (fun t ht hW => ⟨⟨(f_X3_want u (2 : Int32) ((f_X3_x u p0) + (f_X2_immediateI p0).toInt64) ((1 : Int32) <<< (((f_X2_f p0) &&& (3 : Int32)) &&& 31)) (0 : Int64) (1 : Int32) (f_X2_d p0)).1, (f_X3_want u (2 : Int32) ((f_X3_x u p0) + (f_X2_immediateI p0).toInt64) ((1 : Int32) <<< (((f_X2_f p0) &&& (3 : Int32)) &&& 31)) (0 : Int64) (1 : Int32) (f_X2_d p0)).2, rfl, ⟨(congrArg Prod.fst hF).symm, (congrArg Prod.snd hF).symm⟩, by rw [ht]; exact hP, va_K.moved hW.alike hK, hD⟩, hS.F ht⟩) hS.2.2 dX3_load_49
  · refine lv_iconst (v := (-1 : Int32)) hx hb dX3_load_11 (by decide) ?_
    have hF : f_X3_load u p0 = ((-1 : Int32), u) := by unfold f_X3_load; rw [if_neg c1]
    exact W.iret (v := (-1 : Int32)) hx hb hr (fun t ht hW => ⟨⟨(-1 : Int32), u, rfl, ⟨(congrArg Prod.fst hF).symm, (congrArg Prod.snd hF).symm⟩, by rw [ht]; exact hP, va_K.moved hW.alike hK, hD⟩, hS.F ht⟩) hS.2.2 dX3_load_12

def f_X3_store (u : ScT) (p0 : Int32) : Int32 × ScT :=
  if (f_X2_f p0) ≤ (3 : Int32) then
    ((f_X3_want u (3 : Int32) ((f_X3_x u p0) + (f_X2_immediateS p0).toInt64) ((1 : Int32) <<< ((f_X2_f p0) &&& 31)) (f_X3_y u p0) (0 : Int32) (0 : Int32)).1, (f_X3_want u (3 : Int32) ((f_X3_x u p0) + (f_X2_immediateS p0).toInt64) ((1 : Int32) <<< ((f_X2_f p0) &&& 31)) (f_X3_y u p0) (0 : Int32) (0 : Int32)).2)
  else
    ((-1 : Int32), u)
set_option maxHeartbeats 4000000 in
set_option maxRecDepth 100000 in
theorem mt_X3_store (l : Launch) (dC : Nat → ClassId) (dI : Nat → Nat → Nat) (h0 h1 : Nat) (cA : ClassId) (sz : Nat) (u : ScT) (p0 : Int32) : Met l yX3_store wsX3_store ({ frames := 3, cells := 0, slots := 0, locals := 63 }) (wr_P [.ref h0, .int p0] (dC, dI) vwCl (Wc h0 h1 cA u) [(cA, .long)] sz) (va_Qi (fun r v => r = (f_X3_store u p0).1 ∧ v = (f_X3_store u p0).2) (wr_B (dC, dI) vwCl [(cA, .long)] (va_A (Wc h0 h1 cA u) sz) (Wc h0 h1 cA)) (va_A (Wc h0 h1 cA u) sz)) 0 0 (va_A (Wc h0 h1 cA u) sz) := by
  refine Met.ofW (cc := cX3_store) (maxL := 3) (ret := (some .int)) (by decide) rfl ?_
  intro p e s m args below meth c s₁ B hml hv
  obtain ⟨rfl, hsz, hP, hK, hD0⟩ := hv
  have hx := B.exec
  have hb := B.bytes
  have hr := B.returns
  have hts0 := atoms_spec (ws := wsX3_store) B.pre
  have hts := fun (w : Cond) (h : w ∈ lw_G) => hts0 w (List.mem_cons_of_mem _ h)
  have hown : s.vm.findClass RX3 = some m.cls := findClass_of_methodNamed B.named
  have hlocks := B.notSynchronized
  subst hsz
  have hD := hD0.self (sz := s.heap.size)
  generalize hAe : va_A (Wc h0 h1 cA u) s.heap.size = A at hD ⊢
  have hA : ∀ q : Nat, s.heap.size ≤ q → A q := fun q h => by rw [← hAe]; exact Or.inr h
  have hS : va_S A s.heap s.heap [] := va_S.rf
  have hl := lv_entry ([.ref h0, .int p0]) (n := 3) (Nat.le_of_ble_eq_true rfl)
  rw [lg_entry_eq]
  generalize (lg_sl ([.ref h0, .int p0]) ++ List.replicate (3 - (lg_sl ([.ref h0, .int p0])).length) Slot.unset).toArray = ls at hl ⊢
  have hl : lv_has ls 3 [(0, .ref h0), (1, .int p0)] := hl
  refine lv_iload_n hx hb dX3_store_0 rfl (lv_at hl 1 rfl) ?_
  refine W.callV (W.runS (As := [.int p0]) (rest := []) ⟨hx, hb, hml, hown, hts⟩ (mt_X2_f l p0) (va_cwS 1 hts gX3_157_X2_f rfl rfl rfl (by decide +kernel) ⟨Nat.le_of_ble_eq_true rfl, Nat.le_of_ble_eq_true rfl⟩) preEq rfl rfl hl.1 rfl (lv_room (Nat.le_of_ble_eq_true rfl)) dX3_store_1 ⟨Nat.le_of_ble_eq_true rfl, Nat.le_of_ble_eq_true rfl⟩) ?_
  refine W.eq (g2 := F0 m 4 ls [.int (f_X2_f p0)]) rfl ?_
  refine lv_istore_n (lv' := [(2, .int (f_X2_f p0)), (0, .ref h0), (1, .int p0)]) hx hb dX3_store_4 rfl hl (by decide) rfl (fun ls hl => ?_)
  refine lv_iload_n hx hb dX3_store_5 rfl (lv_at hl 0 rfl) ?_
  refine lv_iconst (v := (3 : Int32)) hx hb dX3_store_6 (by decide) ?_
  refine lv_icmp_le (tgt := 12) hx hb dX3_store_7 (by decide) (fun c1 => ?_) (fun c1 => ?_)
  · refine lv_aload_n hx hb dX3_store_12 rfl (lv_at hl 1 rfl) ?_
    refine lv_iconst (v := (3 : Int32)) hx hb dX3_store_13 (by decide) ?_
    refine lv_aload_n hx hb dX3_store_14 rfl (lv_at hl 1 rfl) ?_
    refine lv_iload_n hx hb dX3_store_15 rfl (lv_at hl 2 rfl) ?_
    refine W.callV (W.runV (As := [.int p0]) (rest := [.int (3 : Int32), .ref h0]) ⟨hx, hb, hml, hown, hts⟩ (mt_X3_x l dC dI h0 h1 cA u p0) (cwV 1 hts gX3_101_X3_x rfl rfl rfl (by decide +kernel) ⟨Nat.le_of_ble_eq_true rfl, Nat.le_of_ble_eq_true rfl⟩) (rd_V hK hP (ci := 0) (q0 := 0) rfl rfl rfl) rfl rfl hl.1 rfl (lv_room (Nat.le_of_ble_eq_true rfl)) dX3_store_16 ⟨Nat.le_of_ble_eq_true rfl, Nat.le_of_ble_eq_true rfl⟩) ?_
    refine W.eq (g2 := F0 m 19 ls [.long (f_X3_x u p0), .int (3 : Int32), .ref h0]) rfl ?_
    refine lv_iload_n hx hb dX3_store_19 rfl (lv_at hl 2 rfl) ?_
    refine W.callV (W.runS (As := [.int p0]) (rest := [.long (f_X3_x u p0), .int (3 : Int32), .ref h0]) ⟨hx, hb, hml, hown, hts⟩ (mt_X2_immediateS l p0) (va_cwS 1 hts gX3_202_X2_immediateS rfl rfl rfl (by decide +kernel) ⟨Nat.le_of_ble_eq_true rfl, Nat.le_of_ble_eq_true rfl⟩) preEq rfl rfl hl.1 rfl (lv_room (Nat.le_of_ble_eq_true rfl)) dX3_store_20 ⟨Nat.le_of_ble_eq_true rfl, Nat.le_of_ble_eq_true rfl⟩) ?_
    refine W.eq (g2 := F0 m 23 ls [.int (f_X2_immediateS p0), .long (f_X3_x u p0), .int (3 : Int32), .ref h0]) rfl ?_
    refine lv_i2l (v := (f_X2_immediateS p0).toInt64) hx hb dX3_store_23 rfl ?_
    refine lv_ladd hx hb dX3_store_24 ?_
    refine lv_iconst (v := (1 : Int32)) hx hb dX3_store_25 (by decide) ?_
    refine lv_iload_n hx hb dX3_store_26 rfl (lv_at hl 0 rfl) ?_
    refine lv_ishl hx hb dX3_store_27 ?_
    refine lv_aload_n hx hb dX3_store_28 rfl (lv_at hl 1 rfl) ?_
    refine lv_iload_n hx hb dX3_store_29 rfl (lv_at hl 2 rfl) ?_
    refine W.callV (W.runV (As := [.int p0]) (rest := [.int ((1 : Int32) <<< ((f_X2_f p0) &&& 31)), .long ((f_X3_x u p0) + (f_X2_immediateS p0).toInt64), .int (3 : Int32), .ref h0]) ⟨hx, hb, hml, hown, hts⟩ (mt_X3_y l dC dI h0 h1 cA u p0) (cwV 1 hts gX3_163_X3_y rfl rfl rfl (by decide +kernel) ⟨Nat.le_of_ble_eq_true rfl, Nat.le_of_ble_eq_true rfl⟩) (rd_V hK hP (ci := 0) (q0 := 0) rfl rfl rfl) rfl rfl hl.1 rfl (lv_room (Nat.le_of_ble_eq_true rfl)) dX3_store_30 ⟨Nat.le_of_ble_eq_true rfl, Nat.le_of_ble_eq_true rfl⟩) ?_
    refine W.eq (g2 := F0 m 33 ls [.long (f_X3_y u p0), .int ((1 : Int32) <<< ((f_X2_f p0) &&& 31)), .long ((f_X3_x u p0) + (f_X2_immediateS p0).toInt64), .int (3 : Int32), .ref h0]) rfl ?_
    refine lv_iconst (v := (0 : Int32)) hx hb dX3_store_33 (by decide) ?_
    refine lv_iconst (v := (0 : Int32)) hx hb dX3_store_34 (by decide) ?_
    refine wr_calli (wr := []) (va_runV (As := [.int (3 : Int32), .long ((f_X3_x u p0) + (f_X2_immediateS p0).toInt64), .int ((1 : Int32) <<< ((f_X2_f p0) &&& 31)), .long (f_X3_y u p0), .int (0 : Int32), .int (0 : Int32)]) (rest := []) ⟨hx, hb, hml, hown, hts⟩ (mt_X3_want l dC dI h0 h1 cA s.heap.size u (3 : Int32) ((f_X3_x u p0) + (f_X2_immediateS p0).toInt64) ((1 : Int32) <<< ((f_X2_f p0) &&& 31)) (f_X3_y u p0) (0 : Int32) (0 : Int32)) (cwV 6 hts gX3_108_X3_want rfl rfl rfl (by decide +kernel) ⟨Nat.le_of_ble_eq_true rfl, Nat.le_of_ble_eq_true rfl⟩) (wr_V hK hP hD (ci := 0) (q0 := 0) rfl rfl rfl) rfl rfl hl.1 rfl (lv_room (Nat.le_of_ble_eq_true rfl)) dX3_store_35 ⟨Nat.le_of_ble_eq_true rfl, Nat.le_of_ble_eq_true rfl⟩) hS hP hD hA [0, 1] [] rfl rfl (by decide) (by decide) (fun r_ v_ H locs hw hP hD hS => ?_)
    obtain ⟨rfl, rfl⟩ := hw
    refine W.eq (g2 := F0 m 38 ls [.int (f_X3_want u (3 : Int32) ((f_X3_x u p0) + (f_X2_immediateS p0).toInt64) ((1 : Int32) <<< ((f_X2_f p0) &&& 31)) (f_X3_y u p0) (0 : Int32) (0 : Int32)).1]) rfl ?_
    have hP : va_P (dC, dI) vwCl (Wc h0 h1 cA (f_X3_want u (3 : Int32) ((f_X3_x u p0) + (f_X2_immediateS p0).toInt64) ((1 : Int32) <<< ((f_X2_f p0) &&& 31)) (f_X3_y u p0) (0 : Int32) (0 : Int32)).2) H := hP
    have hD : va_D A (Wc h0 h1 cA (f_X3_want u (3 : Int32) ((f_X3_x u p0) + (f_X2_immediateS p0).toInt64) ((1 : Int32) <<< ((f_X2_f p0) &&& 31)) (f_X3_y u p0) (0 : Int32) (0 : Int32)).2) := hD
    have hF : f_X3_store u p0 = ((f_X3_want u (3 : Int32) ((f_X3_x u p0) + (f_X2_immediateS p0).toInt64) ((1 : Int32) <<< ((f_X2_f p0) &&& 31)) (f_X3_y u p0) (0 : Int32) (0 : Int32)).1, (f_X3_want u (3 : Int32) ((f_X3_x u p0) + (f_X2_immediateS p0).toInt64) ((1 : Int32) <<< ((f_X2_f p0) &&& 31)) (f_X3_y u p0) (0 : Int32) (0 : Int32)).2) := by unfold f_X3_store; rw [if_pos c1]
    exact W.iret (v := (f_X3_want u (3 : Int32) ((f_X3_x u p0) + (f_X2_immediateS p0).toInt64) ((1 : Int32) <<< ((f_X2_f p0) &&& 31)) (f_X3_y u p0) (0 : Int32) (0 : Int32)).1) hx hb hr (fun t ht hW => ⟨⟨(f_X3_want u (3 : Int32) ((f_X3_x u p0) + (f_X2_immediateS p0).toInt64) ((1 : Int32) <<< ((f_X2_f p0) &&& 31)) (f_X3_y u p0) (0 : Int32) (0 : Int32)).1, (f_X3_want u (3 : Int32) ((f_X3_x u p0) + (f_X2_immediateS p0).toInt64) ((1 : Int32) <<< ((f_X2_f p0) &&& 31)) (f_X3_y u p0) (0 : Int32) (0 : Int32)).2, rfl, ⟨(congrArg Prod.fst hF).symm, (congrArg Prod.snd hF).symm⟩, by rw [ht]; exact hP, va_K.moved hW.alike hK, hD⟩, hS.F ht⟩) hS.2.2 dX3_store_38
  · refine lv_iconst (v := (-1 : Int32)) hx hb dX3_store_10 (by decide) ?_
    have hF : f_X3_store u p0 = ((-1 : Int32), u) := by unfold f_X3_store; rw [if_neg c1]
    exact W.iret (v := (-1 : Int32)) hx hb hr (fun t ht hW => ⟨⟨(-1 : Int32), u, rfl, ⟨(congrArg Prod.fst hF).symm, (congrArg Prod.snd hF).symm⟩, by rw [ht]; exact hP, va_K.moved hW.alike hK, hD⟩, hS.F ht⟩) hS.2.2 dX3_store_11

def f_X3_atomic (u : ScT) (p0 : Int32) : Int32 × ScT :=
  if (f_X3_isFourOrEightBytes (f_X2_f p0)) = 0 then
    ((-1 : Int32), u)
  else if (f_X3_isAtomicSort (f_X2_atomicSort p0) (f_X2_b p0)) = 0 then
    ((-1 : Int32), u)
  else
    ((f_X3_want u (4 : Int32) (f_X3_x u p0) ((1 : Int32) <<< ((f_X2_f p0) &&& 31)) (f_X3_y u p0) (f_X2_atomicSort p0) (f_X2_d p0)).1, (f_X3_want u (4 : Int32) (f_X3_x u p0) ((1 : Int32) <<< ((f_X2_f p0) &&& 31)) (f_X3_y u p0) (f_X2_atomicSort p0) (f_X2_d p0)).2)
set_option maxHeartbeats 4000000 in
set_option maxRecDepth 100000 in
theorem mt_X3_atomic (l : Launch) (dC : Nat → ClassId) (dI : Nat → Nat → Nat) (h0 h1 : Nat) (cA : ClassId) (sz : Nat) (u : ScT) (p0 : Int32) : Met l yX3_atomic wsX3_atomic ({ frames := 3, cells := 0, slots := 0, locals := 63 }) (wr_P [.ref h0, .int p0] (dC, dI) vwCl (Wc h0 h1 cA u) [(cA, .long)] sz) (va_Qi (fun r v => r = (f_X3_atomic u p0).1 ∧ v = (f_X3_atomic u p0).2) (wr_B (dC, dI) vwCl [(cA, .long)] (va_A (Wc h0 h1 cA u) sz) (Wc h0 h1 cA)) (va_A (Wc h0 h1 cA u) sz)) 0 0 (va_A (Wc h0 h1 cA u) sz) := by
  refine Met.ofW (cc := cX3_atomic) (maxL := 3) (ret := (some .int)) (by decide) rfl ?_
  intro p e s m args below meth c s₁ B hml hv
  obtain ⟨rfl, hsz, hP, hK, hD0⟩ := hv
  have hx := B.exec
  have hb := B.bytes
  have hr := B.returns
  have hts0 := atoms_spec (ws := wsX3_atomic) B.pre
  have hts := fun (w : Cond) (h : w ∈ lw_G) => hts0 w (List.mem_cons_of_mem _ h)
  have hown : s.vm.findClass RX3 = some m.cls := findClass_of_methodNamed B.named
  have hlocks := B.notSynchronized
  subst hsz
  have hD := hD0.self (sz := s.heap.size)
  generalize hAe : va_A (Wc h0 h1 cA u) s.heap.size = A at hD ⊢
  have hA : ∀ q : Nat, s.heap.size ≤ q → A q := fun q h => by rw [← hAe]; exact Or.inr h
  have hS : va_S A s.heap s.heap [] := va_S.rf
  have hl := lv_entry ([.ref h0, .int p0]) (n := 3) (Nat.le_of_ble_eq_true rfl)
  rw [lg_entry_eq]
  generalize (lg_sl ([.ref h0, .int p0]) ++ List.replicate (3 - (lg_sl ([.ref h0, .int p0])).length) Slot.unset).toArray = ls at hl ⊢
  have hl : lv_has ls 3 [(0, .ref h0), (1, .int p0)] := hl
  refine lv_iload_n hx hb dX3_atomic_0 rfl (lv_at hl 1 rfl) ?_
  refine W.callV (W.runS (As := [.int p0]) (rest := []) ⟨hx, hb, hml, hown, hts⟩ (mt_X2_f l p0) (va_cwS 1 hts gX3_157_X2_f rfl rfl rfl (by decide +kernel) ⟨Nat.le_of_ble_eq_true rfl, Nat.le_of_ble_eq_true rfl⟩) preEq rfl rfl hl.1 rfl (lv_room (Nat.le_of_ble_eq_true rfl)) dX3_atomic_1 ⟨Nat.le_of_ble_eq_true rfl, Nat.le_of_ble_eq_true rfl⟩) ?_
  refine W.eq (g2 := F0 m 4 ls [.int (f_X2_f p0)]) rfl ?_
  refine lv_istore_n (lv' := [(2, .int (f_X2_f p0)), (0, .ref h0), (1, .int p0)]) hx hb dX3_atomic_4 rfl hl (by decide) rfl (fun ls hl => ?_)
  refine lv_iload_n hx hb dX3_atomic_5 rfl (lv_at hl 0 rfl) ?_
  refine W.callV (W.runS (As := [.int (f_X2_f p0)]) (rest := []) ⟨hx, hb, hml, hown, hts⟩ (mt_X3_isFourOrEightBytes l (f_X2_f p0)) (va_cwS 1 hts gX3_205_X3_isFourOrEightBytes rfl rfl rfl (by decide +kernel) ⟨Nat.le_of_ble_eq_true rfl, Nat.le_of_ble_eq_true rfl⟩) preEq rfl rfl hl.1 rfl (lv_room (Nat.le_of_ble_eq_true rfl)) dX3_atomic_6 ⟨Nat.le_of_ble_eq_true rfl, Nat.le_of_ble_eq_true rfl⟩) ?_
  refine W.eq (g2 := F0 m 9 ls [.int (f_X3_isFourOrEightBytes (f_X2_f p0))]) rfl ?_
  refine lv_if_eq (tgt := 26) hx hb dX3_atomic_9 (by decide) (fun c1 => ?_) (fun c1 => ?_)
  · refine lv_iconst (v := (-1 : Int32)) hx hb dX3_atomic_26 (by decide) ?_
    have hF : f_X3_atomic u p0 = ((-1 : Int32), u) := by unfold f_X3_atomic; rw [if_pos c1]
    exact W.iret (v := (-1 : Int32)) hx hb hr (fun t ht hW => ⟨⟨(-1 : Int32), u, rfl, ⟨(congrArg Prod.fst hF).symm, (congrArg Prod.snd hF).symm⟩, by rw [ht]; exact hP, va_K.moved hW.alike hK, hD⟩, hS.F ht⟩) hS.2.2 dX3_atomic_27
  · refine lv_iload_n hx hb dX3_atomic_12 rfl (lv_at hl 2 rfl) ?_
    refine W.callV (W.runS (As := [.int p0]) (rest := []) ⟨hx, hb, hml, hown, hts⟩ (mt_X2_atomicSort l p0) (va_cwS 1 hts gX3_208_X2_atomicSort rfl rfl rfl (by decide +kernel) ⟨Nat.le_of_ble_eq_true rfl, Nat.le_of_ble_eq_true rfl⟩) preEq rfl rfl hl.1 rfl (lv_room (Nat.le_of_ble_eq_true rfl)) dX3_atomic_13 ⟨Nat.le_of_ble_eq_true rfl, Nat.le_of_ble_eq_true rfl⟩) ?_
    refine W.eq (g2 := F0 m 16 ls [.int (f_X2_atomicSort p0)]) rfl ?_
    refine lv_iload_n hx hb dX3_atomic_16 rfl (lv_at hl 2 rfl) ?_
    refine W.callV (W.runS (As := [.int p0]) (rest := [.int (f_X2_atomicSort p0)]) ⟨hx, hb, hml, hown, hts⟩ (mt_X2_b l p0) (va_cwS 1 hts gX3_154_X2_b rfl rfl rfl (by decide +kernel) ⟨Nat.le_of_ble_eq_true rfl, Nat.le_of_ble_eq_true rfl⟩) preEq rfl rfl hl.1 rfl (lv_room (Nat.le_of_ble_eq_true rfl)) dX3_atomic_17 ⟨Nat.le_of_ble_eq_true rfl, Nat.le_of_ble_eq_true rfl⟩) ?_
    refine W.eq (g2 := F0 m 20 ls [.int (f_X2_b p0), .int (f_X2_atomicSort p0)]) rfl ?_
    refine W.callV (W.runS (As := [.int (f_X2_atomicSort p0), .int (f_X2_b p0)]) (rest := []) ⟨hx, hb, hml, hown, hts⟩ (mt_X3_isAtomicSort l (f_X2_atomicSort p0) (f_X2_b p0)) (va_cwS 2 hts gX3_211_X3_isAtomicSort rfl rfl rfl (by decide +kernel) ⟨Nat.le_of_ble_eq_true rfl, Nat.le_of_ble_eq_true rfl⟩) preEq rfl rfl hl.1 rfl (lv_room (Nat.le_of_ble_eq_true rfl)) dX3_atomic_20 ⟨Nat.le_of_ble_eq_true rfl, Nat.le_of_ble_eq_true rfl⟩) ?_
    refine W.eq (g2 := F0 m 23 ls [.int (f_X3_isAtomicSort (f_X2_atomicSort p0) (f_X2_b p0))]) rfl ?_
    refine lv_if_ne (tgt := 28) hx hb dX3_atomic_23 (by decide) (fun c2 => ?_) (fun c2 => ?_)
    · refine lv_aload_n hx hb dX3_atomic_28 rfl (lv_at hl 1 rfl) ?_
      refine lv_iconst (v := (4 : Int32)) hx hb dX3_atomic_29 (by decide) ?_
      refine lv_aload_n hx hb dX3_atomic_30 rfl (lv_at hl 1 rfl) ?_
      refine lv_iload_n hx hb dX3_atomic_31 rfl (lv_at hl 2 rfl) ?_
      refine W.callV (W.runV (As := [.int p0]) (rest := [.int (4 : Int32), .ref h0]) ⟨hx, hb, hml, hown, hts⟩ (mt_X3_x l dC dI h0 h1 cA u p0) (cwV 1 hts gX3_101_X3_x rfl rfl rfl (by decide +kernel) ⟨Nat.le_of_ble_eq_true rfl, Nat.le_of_ble_eq_true rfl⟩) (rd_V hK hP (ci := 0) (q0 := 0) rfl rfl rfl) rfl rfl hl.1 rfl (lv_room (Nat.le_of_ble_eq_true rfl)) dX3_atomic_32 ⟨Nat.le_of_ble_eq_true rfl, Nat.le_of_ble_eq_true rfl⟩) ?_
      refine W.eq (g2 := F0 m 35 ls [.long (f_X3_x u p0), .int (4 : Int32), .ref h0]) rfl ?_
      refine lv_iconst (v := (1 : Int32)) hx hb dX3_atomic_35 (by decide) ?_
      refine lv_iload_n hx hb dX3_atomic_36 rfl (lv_at hl 0 rfl) ?_
      refine lv_ishl hx hb dX3_atomic_37 ?_
      refine lv_aload_n hx hb dX3_atomic_38 rfl (lv_at hl 1 rfl) ?_
      refine lv_iload_n hx hb dX3_atomic_39 rfl (lv_at hl 2 rfl) ?_
      refine W.callV (W.runV (As := [.int p0]) (rest := [.int ((1 : Int32) <<< ((f_X2_f p0) &&& 31)), .long (f_X3_x u p0), .int (4 : Int32), .ref h0]) ⟨hx, hb, hml, hown, hts⟩ (mt_X3_y l dC dI h0 h1 cA u p0) (cwV 1 hts gX3_163_X3_y rfl rfl rfl (by decide +kernel) ⟨Nat.le_of_ble_eq_true rfl, Nat.le_of_ble_eq_true rfl⟩) (rd_V hK hP (ci := 0) (q0 := 0) rfl rfl rfl) rfl rfl hl.1 rfl (lv_room (Nat.le_of_ble_eq_true rfl)) dX3_atomic_40 ⟨Nat.le_of_ble_eq_true rfl, Nat.le_of_ble_eq_true rfl⟩) ?_
      refine W.eq (g2 := F0 m 43 ls [.long (f_X3_y u p0), .int ((1 : Int32) <<< ((f_X2_f p0) &&& 31)), .long (f_X3_x u p0), .int (4 : Int32), .ref h0]) rfl ?_
      refine lv_iload_n hx hb dX3_atomic_43 rfl (lv_at hl 2 rfl) ?_
      refine W.callV (W.runS (As := [.int p0]) (rest := [.long (f_X3_y u p0), .int ((1 : Int32) <<< ((f_X2_f p0) &&& 31)), .long (f_X3_x u p0), .int (4 : Int32), .ref h0]) ⟨hx, hb, hml, hown, hts⟩ (mt_X2_atomicSort l p0) (va_cwS 1 hts gX3_208_X2_atomicSort rfl rfl rfl (by decide +kernel) ⟨Nat.le_of_ble_eq_true rfl, Nat.le_of_ble_eq_true rfl⟩) preEq rfl rfl hl.1 rfl (lv_room (Nat.le_of_ble_eq_true rfl)) dX3_atomic_44 ⟨Nat.le_of_ble_eq_true rfl, Nat.le_of_ble_eq_true rfl⟩) ?_
      refine W.eq (g2 := F0 m 47 ls [.int (f_X2_atomicSort p0), .long (f_X3_y u p0), .int ((1 : Int32) <<< ((f_X2_f p0) &&& 31)), .long (f_X3_x u p0), .int (4 : Int32), .ref h0]) rfl ?_
      refine lv_iload_n hx hb dX3_atomic_47 rfl (lv_at hl 2 rfl) ?_
      refine W.callV (W.runS (As := [.int p0]) (rest := [.int (f_X2_atomicSort p0), .long (f_X3_y u p0), .int ((1 : Int32) <<< ((f_X2_f p0) &&& 31)), .long (f_X3_x u p0), .int (4 : Int32), .ref h0]) ⟨hx, hb, hml, hown, hts⟩ (mt_X2_d l p0) (va_cwS 1 hts gX3_105_X2_d rfl rfl rfl (by decide +kernel) ⟨Nat.le_of_ble_eq_true rfl, Nat.le_of_ble_eq_true rfl⟩) preEq rfl rfl hl.1 rfl (lv_room (Nat.le_of_ble_eq_true rfl)) dX3_atomic_48 ⟨Nat.le_of_ble_eq_true rfl, Nat.le_of_ble_eq_true rfl⟩) ?_
      refine W.eq (g2 := F0 m 51 ls [.int (f_X2_d p0), .int (f_X2_atomicSort p0), .long (f_X3_y u p0), .int ((1 : Int32) <<< ((f_X2_f p0) &&& 31)), .long (f_X3_x u p0), .int (4 : Int32), .ref h0]) rfl ?_
      refine wr_calli (wr := []) (va_runV (As := [.int (4 : Int32), .long (f_X3_x u p0), .int ((1 : Int32) <<< ((f_X2_f p0) &&& 31)), .long (f_X3_y u p0), .int (f_X2_atomicSort p0), .int (f_X2_d p0)]) (rest := []) ⟨hx, hb, hml, hown, hts⟩ (mt_X3_want l dC dI h0 h1 cA s.heap.size u (4 : Int32) (f_X3_x u p0) ((1 : Int32) <<< ((f_X2_f p0) &&& 31)) (f_X3_y u p0) (f_X2_atomicSort p0) (f_X2_d p0)) (cwV 6 hts gX3_108_X3_want rfl rfl rfl (by decide +kernel) ⟨Nat.le_of_ble_eq_true rfl, Nat.le_of_ble_eq_true rfl⟩) (wr_V hK hP hD (ci := 0) (q0 := 0) rfl rfl rfl) rfl rfl hl.1 rfl (lv_room (Nat.le_of_ble_eq_true rfl)) dX3_atomic_51 ⟨Nat.le_of_ble_eq_true rfl, Nat.le_of_ble_eq_true rfl⟩) hS hP hD hA [0, 1] [] rfl rfl (by decide) (by decide) (fun r_ v_ H locs hw hP hD hS => ?_)
      obtain ⟨rfl, rfl⟩ := hw
      refine W.eq (g2 := F0 m 54 ls [.int (f_X3_want u (4 : Int32) (f_X3_x u p0) ((1 : Int32) <<< ((f_X2_f p0) &&& 31)) (f_X3_y u p0) (f_X2_atomicSort p0) (f_X2_d p0)).1]) rfl ?_
      have hP : va_P (dC, dI) vwCl (Wc h0 h1 cA (f_X3_want u (4 : Int32) (f_X3_x u p0) ((1 : Int32) <<< ((f_X2_f p0) &&& 31)) (f_X3_y u p0) (f_X2_atomicSort p0) (f_X2_d p0)).2) H := hP
      have hD : va_D A (Wc h0 h1 cA (f_X3_want u (4 : Int32) (f_X3_x u p0) ((1 : Int32) <<< ((f_X2_f p0) &&& 31)) (f_X3_y u p0) (f_X2_atomicSort p0) (f_X2_d p0)).2) := hD
      have hF : f_X3_atomic u p0 = ((f_X3_want u (4 : Int32) (f_X3_x u p0) ((1 : Int32) <<< ((f_X2_f p0) &&& 31)) (f_X3_y u p0) (f_X2_atomicSort p0) (f_X2_d p0)).1, (f_X3_want u (4 : Int32) (f_X3_x u p0) ((1 : Int32) <<< ((f_X2_f p0) &&& 31)) (f_X3_y u p0) (f_X2_atomicSort p0) (f_X2_d p0)).2) := by unfold f_X3_atomic; rw [if_neg c1, if_neg c2]
      exact W.iret (v := (f_X3_want u (4 : Int32) (f_X3_x u p0) ((1 : Int32) <<< ((f_X2_f p0) &&& 31)) (f_X3_y u p0) (f_X2_atomicSort p0) (f_X2_d p0)).1) hx hb hr (fun t ht hW => ⟨⟨(f_X3_want u (4 : Int32) (f_X3_x u p0) ((1 : Int32) <<< ((f_X2_f p0) &&& 31)) (f_X3_y u p0) (f_X2_atomicSort p0) (f_X2_d p0)).1, (f_X3_want u (4 : Int32) (f_X3_x u p0) ((1 : Int32) <<< ((f_X2_f p0) &&& 31)) (f_X3_y u p0) (f_X2_atomicSort p0) (f_X2_d p0)).2, rfl, ⟨(congrArg Prod.fst hF).symm, (congrArg Prod.snd hF).symm⟩, by rw [ht]; exact hP, va_K.moved hW.alike hK, hD⟩, hS.F ht⟩) hS.2.2 dX3_atomic_54
    · refine lv_iconst (v := (-1 : Int32)) hx hb dX3_atomic_26 (by decide) ?_
      have hF : f_X3_atomic u p0 = ((-1 : Int32), u) := by unfold f_X3_atomic; rw [if_neg c1, if_pos c2]
      exact W.iret (v := (-1 : Int32)) hx hb hr (fun t ht hW => ⟨⟨(-1 : Int32), u, rfl, ⟨(congrArg Prod.fst hF).symm, (congrArg Prod.snd hF).symm⟩, by rw [ht]; exact hP, va_K.moved hW.alike hK, hD⟩, hS.F ht⟩) hS.2.2 dX3_atomic_27

def f_X3_loadFloat (u : ScT) (p0 : Int32) : Int32 × ScT :=
  if (f_X3_isFourOrEightBytes (f_X2_f p0)) = 0 then
    ((-1 : Int32), u)
  else
    ((f_X3_want u (5 : Int32) ((f_X3_x u p0) + (f_X2_immediateI p0).toInt64) ((1 : Int32) <<< ((f_X2_f p0) &&& 31)) (0 : Int64) (f_X2_code p0) (f_X2_d p0)).1, (f_X3_want u (5 : Int32) ((f_X3_x u p0) + (f_X2_immediateI p0).toInt64) ((1 : Int32) <<< ((f_X2_f p0) &&& 31)) (0 : Int64) (f_X2_code p0) (f_X2_d p0)).2)
set_option maxHeartbeats 4000000 in
set_option maxRecDepth 100000 in
theorem mt_X3_loadFloat (l : Launch) (dC : Nat → ClassId) (dI : Nat → Nat → Nat) (h0 h1 : Nat) (cA : ClassId) (sz : Nat) (u : ScT) (p0 : Int32) : Met l yX3_loadFloat wsX3_loadFloat ({ frames := 3, cells := 0, slots := 0, locals := 63 }) (wr_P [.ref h0, .int p0] (dC, dI) vwCl (Wc h0 h1 cA u) [(cA, .long)] sz) (va_Qi (fun r v => r = (f_X3_loadFloat u p0).1 ∧ v = (f_X3_loadFloat u p0).2) (wr_B (dC, dI) vwCl [(cA, .long)] (va_A (Wc h0 h1 cA u) sz) (Wc h0 h1 cA)) (va_A (Wc h0 h1 cA u) sz)) 0 0 (va_A (Wc h0 h1 cA u) sz) := by
  refine Met.ofW (cc := cX3_loadFloat) (maxL := 3) (ret := (some .int)) (by decide) rfl ?_
  intro p e s m args below meth c s₁ B hml hv
  obtain ⟨rfl, hsz, hP, hK, hD0⟩ := hv
  have hx := B.exec
  have hb := B.bytes
  have hr := B.returns
  have hts0 := atoms_spec (ws := wsX3_loadFloat) B.pre
  have hts := fun (w : Cond) (h : w ∈ lw_G) => hts0 w (List.mem_cons_of_mem _ h)
  have hown : s.vm.findClass RX3 = some m.cls := findClass_of_methodNamed B.named
  have hlocks := B.notSynchronized
  subst hsz
  have hD := hD0.self (sz := s.heap.size)
  generalize hAe : va_A (Wc h0 h1 cA u) s.heap.size = A at hD ⊢
  have hA : ∀ q : Nat, s.heap.size ≤ q → A q := fun q h => by rw [← hAe]; exact Or.inr h
  have hS : va_S A s.heap s.heap [] := va_S.rf
  have hl := lv_entry ([.ref h0, .int p0]) (n := 3) (Nat.le_of_ble_eq_true rfl)
  rw [lg_entry_eq]
  generalize (lg_sl ([.ref h0, .int p0]) ++ List.replicate (3 - (lg_sl ([.ref h0, .int p0])).length) Slot.unset).toArray = ls at hl ⊢
  have hl : lv_has ls 3 [(0, .ref h0), (1, .int p0)] := hl
  refine lv_iload_n hx hb dX3_loadFloat_0 rfl (lv_at hl 1 rfl) ?_
  refine W.callV (W.runS (As := [.int p0]) (rest := []) ⟨hx, hb, hml, hown, hts⟩ (mt_X2_f l p0) (va_cwS 1 hts gX3_157_X2_f rfl rfl rfl (by decide +kernel) ⟨Nat.le_of_ble_eq_true rfl, Nat.le_of_ble_eq_true rfl⟩) preEq rfl rfl hl.1 rfl (lv_room (Nat.le_of_ble_eq_true rfl)) dX3_loadFloat_1 ⟨Nat.le_of_ble_eq_true rfl, Nat.le_of_ble_eq_true rfl⟩) ?_
  refine W.eq (g2 := F0 m 4 ls [.int (f_X2_f p0)]) rfl ?_
  refine lv_istore_n (lv' := [(2, .int (f_X2_f p0)), (0, .ref h0), (1, .int p0)]) hx hb dX3_loadFloat_4 rfl hl (by decide) rfl (fun ls hl => ?_)
  refine lv_iload_n hx hb dX3_loadFloat_5 rfl (lv_at hl 0 rfl) ?_
  refine W.callV (W.runS (As := [.int (f_X2_f p0)]) (rest := []) ⟨hx, hb, hml, hown, hts⟩ (mt_X3_isFourOrEightBytes l (f_X2_f p0)) (va_cwS 1 hts gX3_205_X3_isFourOrEightBytes rfl rfl rfl (by decide +kernel) ⟨Nat.le_of_ble_eq_true rfl, Nat.le_of_ble_eq_true rfl⟩) preEq rfl rfl hl.1 rfl (lv_room (Nat.le_of_ble_eq_true rfl)) dX3_loadFloat_6 ⟨Nat.le_of_ble_eq_true rfl, Nat.le_of_ble_eq_true rfl⟩) ?_
  refine W.eq (g2 := F0 m 9 ls [.int (f_X3_isFourOrEightBytes (f_X2_f p0))]) rfl ?_
  refine lv_if_ne (tgt := 14) hx hb dX3_loadFloat_9 (by decide) (fun c1 => ?_) (fun c1 => ?_)
  · refine lv_aload_n hx hb dX3_loadFloat_14 rfl (lv_at hl 1 rfl) ?_
    refine lv_iconst (v := (5 : Int32)) hx hb dX3_loadFloat_15 (by decide) ?_
    refine lv_aload_n hx hb dX3_loadFloat_16 rfl (lv_at hl 1 rfl) ?_
    refine lv_iload_n hx hb dX3_loadFloat_17 rfl (lv_at hl 2 rfl) ?_
    refine W.callV (W.runV (As := [.int p0]) (rest := [.int (5 : Int32), .ref h0]) ⟨hx, hb, hml, hown, hts⟩ (mt_X3_x l dC dI h0 h1 cA u p0) (cwV 1 hts gX3_101_X3_x rfl rfl rfl (by decide +kernel) ⟨Nat.le_of_ble_eq_true rfl, Nat.le_of_ble_eq_true rfl⟩) (rd_V hK hP (ci := 0) (q0 := 0) rfl rfl rfl) rfl rfl hl.1 rfl (lv_room (Nat.le_of_ble_eq_true rfl)) dX3_loadFloat_18 ⟨Nat.le_of_ble_eq_true rfl, Nat.le_of_ble_eq_true rfl⟩) ?_
    refine W.eq (g2 := F0 m 21 ls [.long (f_X3_x u p0), .int (5 : Int32), .ref h0]) rfl ?_
    refine lv_iload_n hx hb dX3_loadFloat_21 rfl (lv_at hl 2 rfl) ?_
    refine W.callV (W.runS (As := [.int p0]) (rest := [.long (f_X3_x u p0), .int (5 : Int32), .ref h0]) ⟨hx, hb, hml, hown, hts⟩ (mt_X2_immediateI l p0) (va_cwS 1 hts gX3_160_X2_immediateI rfl rfl rfl (by decide +kernel) ⟨Nat.le_of_ble_eq_true rfl, Nat.le_of_ble_eq_true rfl⟩) preEq rfl rfl hl.1 rfl (lv_room (Nat.le_of_ble_eq_true rfl)) dX3_loadFloat_22 ⟨Nat.le_of_ble_eq_true rfl, Nat.le_of_ble_eq_true rfl⟩) ?_
    refine W.eq (g2 := F0 m 25 ls [.int (f_X2_immediateI p0), .long (f_X3_x u p0), .int (5 : Int32), .ref h0]) rfl ?_
    refine lv_i2l (v := (f_X2_immediateI p0).toInt64) hx hb dX3_loadFloat_25 rfl ?_
    refine lv_ladd hx hb dX3_loadFloat_26 ?_
    refine lv_iconst (v := (1 : Int32)) hx hb dX3_loadFloat_27 (by decide) ?_
    refine lv_iload_n hx hb dX3_loadFloat_28 rfl (lv_at hl 0 rfl) ?_
    refine lv_ishl hx hb dX3_loadFloat_29 ?_
    refine lv_lconst (v := (0 : Int64)) hx hb dX3_loadFloat_30 (by decide) ?_
    refine lv_iload_n hx hb dX3_loadFloat_31 rfl (lv_at hl 2 rfl) ?_
    refine W.callV (W.runS (As := [.int p0]) (rest := [.long (0 : Int64), .int ((1 : Int32) <<< ((f_X2_f p0) &&& 31)), .long ((f_X3_x u p0) + (f_X2_immediateI p0).toInt64), .int (5 : Int32), .ref h0]) ⟨hx, hb, hml, hown, hts⟩ (mt_X2_code l p0) (va_cwS 1 hts gX3_46_X2_code rfl rfl rfl (by decide +kernel) ⟨Nat.le_of_ble_eq_true rfl, Nat.le_of_ble_eq_true rfl⟩) preEq rfl rfl hl.1 rfl (lv_room (Nat.le_of_ble_eq_true rfl)) dX3_loadFloat_32 ⟨Nat.le_of_ble_eq_true rfl, Nat.le_of_ble_eq_true rfl⟩) ?_
    refine W.eq (g2 := F0 m 35 ls [.int (f_X2_code p0), .long (0 : Int64), .int ((1 : Int32) <<< ((f_X2_f p0) &&& 31)), .long ((f_X3_x u p0) + (f_X2_immediateI p0).toInt64), .int (5 : Int32), .ref h0]) rfl ?_
    refine lv_iload_n hx hb dX3_loadFloat_35 rfl (lv_at hl 2 rfl) ?_
    refine W.callV (W.runS (As := [.int p0]) (rest := [.int (f_X2_code p0), .long (0 : Int64), .int ((1 : Int32) <<< ((f_X2_f p0) &&& 31)), .long ((f_X3_x u p0) + (f_X2_immediateI p0).toInt64), .int (5 : Int32), .ref h0]) ⟨hx, hb, hml, hown, hts⟩ (mt_X2_d l p0) (va_cwS 1 hts gX3_105_X2_d rfl rfl rfl (by decide +kernel) ⟨Nat.le_of_ble_eq_true rfl, Nat.le_of_ble_eq_true rfl⟩) preEq rfl rfl hl.1 rfl (lv_room (Nat.le_of_ble_eq_true rfl)) dX3_loadFloat_36 ⟨Nat.le_of_ble_eq_true rfl, Nat.le_of_ble_eq_true rfl⟩) ?_
    refine W.eq (g2 := F0 m 39 ls [.int (f_X2_d p0), .int (f_X2_code p0), .long (0 : Int64), .int ((1 : Int32) <<< ((f_X2_f p0) &&& 31)), .long ((f_X3_x u p0) + (f_X2_immediateI p0).toInt64), .int (5 : Int32), .ref h0]) rfl ?_
    refine wr_calli (wr := []) (va_runV (As := [.int (5 : Int32), .long ((f_X3_x u p0) + (f_X2_immediateI p0).toInt64), .int ((1 : Int32) <<< ((f_X2_f p0) &&& 31)), .long (0 : Int64), .int (f_X2_code p0), .int (f_X2_d p0)]) (rest := []) ⟨hx, hb, hml, hown, hts⟩ (mt_X3_want l dC dI h0 h1 cA s.heap.size u (5 : Int32) ((f_X3_x u p0) + (f_X2_immediateI p0).toInt64) ((1 : Int32) <<< ((f_X2_f p0) &&& 31)) (0 : Int64) (f_X2_code p0) (f_X2_d p0)) (cwV 6 hts gX3_108_X3_want rfl rfl rfl (by decide +kernel) ⟨Nat.le_of_ble_eq_true rfl, Nat.le_of_ble_eq_true rfl⟩) (wr_V hK hP hD (ci := 0) (q0 := 0) rfl rfl rfl) rfl rfl hl.1 rfl (lv_room (Nat.le_of_ble_eq_true rfl)) dX3_loadFloat_39 ⟨Nat.le_of_ble_eq_true rfl, Nat.le_of_ble_eq_true rfl⟩) hS hP hD hA [0, 1] [] rfl rfl (by decide) (by decide) (fun r_ v_ H locs hw hP hD hS => ?_)
    obtain ⟨rfl, rfl⟩ := hw
    refine W.eq (g2 := F0 m 42 ls [.int (f_X3_want u (5 : Int32) ((f_X3_x u p0) + (f_X2_immediateI p0).toInt64) ((1 : Int32) <<< ((f_X2_f p0) &&& 31)) (0 : Int64) (f_X2_code p0) (f_X2_d p0)).1]) rfl ?_
    have hP : va_P (dC, dI) vwCl (Wc h0 h1 cA (f_X3_want u (5 : Int32) ((f_X3_x u p0) + (f_X2_immediateI p0).toInt64) ((1 : Int32) <<< ((f_X2_f p0) &&& 31)) (0 : Int64) (f_X2_code p0) (f_X2_d p0)).2) H := hP
    have hD : va_D A (Wc h0 h1 cA (f_X3_want u (5 : Int32) ((f_X3_x u p0) + (f_X2_immediateI p0).toInt64) ((1 : Int32) <<< ((f_X2_f p0) &&& 31)) (0 : Int64) (f_X2_code p0) (f_X2_d p0)).2) := hD
    have hF : f_X3_loadFloat u p0 = ((f_X3_want u (5 : Int32) ((f_X3_x u p0) + (f_X2_immediateI p0).toInt64) ((1 : Int32) <<< ((f_X2_f p0) &&& 31)) (0 : Int64) (f_X2_code p0) (f_X2_d p0)).1, (f_X3_want u (5 : Int32) ((f_X3_x u p0) + (f_X2_immediateI p0).toInt64) ((1 : Int32) <<< ((f_X2_f p0) &&& 31)) (0 : Int64) (f_X2_code p0) (f_X2_d p0)).2) := by unfold f_X3_loadFloat; rw [if_neg c1]
    exact W.iret (v := (f_X3_want u (5 : Int32) ((f_X3_x u p0) + (f_X2_immediateI p0).toInt64) ((1 : Int32) <<< ((f_X2_f p0) &&& 31)) (0 : Int64) (f_X2_code p0) (f_X2_d p0)).1) hx hb hr (fun t ht hW => ⟨⟨(f_X3_want u (5 : Int32) ((f_X3_x u p0) + (f_X2_immediateI p0).toInt64) ((1 : Int32) <<< ((f_X2_f p0) &&& 31)) (0 : Int64) (f_X2_code p0) (f_X2_d p0)).1, (f_X3_want u (5 : Int32) ((f_X3_x u p0) + (f_X2_immediateI p0).toInt64) ((1 : Int32) <<< ((f_X2_f p0) &&& 31)) (0 : Int64) (f_X2_code p0) (f_X2_d p0)).2, rfl, ⟨(congrArg Prod.fst hF).symm, (congrArg Prod.snd hF).symm⟩, by rw [ht]; exact hP, va_K.moved hW.alike hK, hD⟩, hS.F ht⟩) hS.2.2 dX3_loadFloat_42
  · refine lv_iconst (v := (-1 : Int32)) hx hb dX3_loadFloat_12 (by decide) ?_
    have hF : f_X3_loadFloat u p0 = ((-1 : Int32), u) := by unfold f_X3_loadFloat; rw [if_pos c1]
    exact W.iret (v := (-1 : Int32)) hx hb hr (fun t ht hW => ⟨⟨(-1 : Int32), u, rfl, ⟨(congrArg Prod.fst hF).symm, (congrArg Prod.snd hF).symm⟩, by rw [ht]; exact hP, va_K.moved hW.alike hK, hD⟩, hS.F ht⟩) hS.2.2 dX3_loadFloat_13

def f_X3_storeFloat (u : ScT) (p0 : Int32) : Int32 × ScT :=
  if (f_X3_isFourOrEightBytes (f_X2_f p0)) = 0 then
    ((-1 : Int32), u)
  else
    ((f_X3_want u (5 : Int32) ((f_X3_x u p0) + (f_X2_immediateS p0).toInt64) ((1 : Int32) <<< ((f_X2_f p0) &&& 31)) (0 : Int64) (f_X2_code p0) (0 : Int32)).1, (f_X3_want u (5 : Int32) ((f_X3_x u p0) + (f_X2_immediateS p0).toInt64) ((1 : Int32) <<< ((f_X2_f p0) &&& 31)) (0 : Int64) (f_X2_code p0) (0 : Int32)).2)
set_option maxHeartbeats 4000000 in
set_option maxRecDepth 100000 in
theorem mt_X3_storeFloat (l : Launch) (dC : Nat → ClassId) (dI : Nat → Nat → Nat) (h0 h1 : Nat) (cA : ClassId) (sz : Nat) (u : ScT) (p0 : Int32) : Met l yX3_storeFloat wsX3_storeFloat ({ frames := 3, cells := 0, slots := 0, locals := 63 }) (wr_P [.ref h0, .int p0] (dC, dI) vwCl (Wc h0 h1 cA u) [(cA, .long)] sz) (va_Qi (fun r v => r = (f_X3_storeFloat u p0).1 ∧ v = (f_X3_storeFloat u p0).2) (wr_B (dC, dI) vwCl [(cA, .long)] (va_A (Wc h0 h1 cA u) sz) (Wc h0 h1 cA)) (va_A (Wc h0 h1 cA u) sz)) 0 0 (va_A (Wc h0 h1 cA u) sz) := by
  refine Met.ofW (cc := cX3_storeFloat) (maxL := 3) (ret := (some .int)) (by decide) rfl ?_
  intro p e s m args below meth c s₁ B hml hv
  obtain ⟨rfl, hsz, hP, hK, hD0⟩ := hv
  have hx := B.exec
  have hb := B.bytes
  have hr := B.returns
  have hts0 := atoms_spec (ws := wsX3_storeFloat) B.pre
  have hts := fun (w : Cond) (h : w ∈ lw_G) => hts0 w (List.mem_cons_of_mem _ h)
  have hown : s.vm.findClass RX3 = some m.cls := findClass_of_methodNamed B.named
  have hlocks := B.notSynchronized
  subst hsz
  have hD := hD0.self (sz := s.heap.size)
  generalize hAe : va_A (Wc h0 h1 cA u) s.heap.size = A at hD ⊢
  have hA : ∀ q : Nat, s.heap.size ≤ q → A q := fun q h => by rw [← hAe]; exact Or.inr h
  have hS : va_S A s.heap s.heap [] := va_S.rf
  have hl := lv_entry ([.ref h0, .int p0]) (n := 3) (Nat.le_of_ble_eq_true rfl)
  rw [lg_entry_eq]
  generalize (lg_sl ([.ref h0, .int p0]) ++ List.replicate (3 - (lg_sl ([.ref h0, .int p0])).length) Slot.unset).toArray = ls at hl ⊢
  have hl : lv_has ls 3 [(0, .ref h0), (1, .int p0)] := hl
  refine lv_iload_n hx hb dX3_storeFloat_0 rfl (lv_at hl 1 rfl) ?_
  refine W.callV (W.runS (As := [.int p0]) (rest := []) ⟨hx, hb, hml, hown, hts⟩ (mt_X2_f l p0) (va_cwS 1 hts gX3_157_X2_f rfl rfl rfl (by decide +kernel) ⟨Nat.le_of_ble_eq_true rfl, Nat.le_of_ble_eq_true rfl⟩) preEq rfl rfl hl.1 rfl (lv_room (Nat.le_of_ble_eq_true rfl)) dX3_storeFloat_1 ⟨Nat.le_of_ble_eq_true rfl, Nat.le_of_ble_eq_true rfl⟩) ?_
  refine W.eq (g2 := F0 m 4 ls [.int (f_X2_f p0)]) rfl ?_
  refine lv_istore_n (lv' := [(2, .int (f_X2_f p0)), (0, .ref h0), (1, .int p0)]) hx hb dX3_storeFloat_4 rfl hl (by decide) rfl (fun ls hl => ?_)
  refine lv_iload_n hx hb dX3_storeFloat_5 rfl (lv_at hl 0 rfl) ?_
  refine W.callV (W.runS (As := [.int (f_X2_f p0)]) (rest := []) ⟨hx, hb, hml, hown, hts⟩ (mt_X3_isFourOrEightBytes l (f_X2_f p0)) (va_cwS 1 hts gX3_205_X3_isFourOrEightBytes rfl rfl rfl (by decide +kernel) ⟨Nat.le_of_ble_eq_true rfl, Nat.le_of_ble_eq_true rfl⟩) preEq rfl rfl hl.1 rfl (lv_room (Nat.le_of_ble_eq_true rfl)) dX3_storeFloat_6 ⟨Nat.le_of_ble_eq_true rfl, Nat.le_of_ble_eq_true rfl⟩) ?_
  refine W.eq (g2 := F0 m 9 ls [.int (f_X3_isFourOrEightBytes (f_X2_f p0))]) rfl ?_
  refine lv_if_ne (tgt := 14) hx hb dX3_storeFloat_9 (by decide) (fun c1 => ?_) (fun c1 => ?_)
  · refine lv_aload_n hx hb dX3_storeFloat_14 rfl (lv_at hl 1 rfl) ?_
    refine lv_iconst (v := (5 : Int32)) hx hb dX3_storeFloat_15 (by decide) ?_
    refine lv_aload_n hx hb dX3_storeFloat_16 rfl (lv_at hl 1 rfl) ?_
    refine lv_iload_n hx hb dX3_storeFloat_17 rfl (lv_at hl 2 rfl) ?_
    refine W.callV (W.runV (As := [.int p0]) (rest := [.int (5 : Int32), .ref h0]) ⟨hx, hb, hml, hown, hts⟩ (mt_X3_x l dC dI h0 h1 cA u p0) (cwV 1 hts gX3_101_X3_x rfl rfl rfl (by decide +kernel) ⟨Nat.le_of_ble_eq_true rfl, Nat.le_of_ble_eq_true rfl⟩) (rd_V hK hP (ci := 0) (q0 := 0) rfl rfl rfl) rfl rfl hl.1 rfl (lv_room (Nat.le_of_ble_eq_true rfl)) dX3_storeFloat_18 ⟨Nat.le_of_ble_eq_true rfl, Nat.le_of_ble_eq_true rfl⟩) ?_
    refine W.eq (g2 := F0 m 21 ls [.long (f_X3_x u p0), .int (5 : Int32), .ref h0]) rfl ?_
    refine lv_iload_n hx hb dX3_storeFloat_21 rfl (lv_at hl 2 rfl) ?_
    refine W.callV (W.runS (As := [.int p0]) (rest := [.long (f_X3_x u p0), .int (5 : Int32), .ref h0]) ⟨hx, hb, hml, hown, hts⟩ (mt_X2_immediateS l p0) (va_cwS 1 hts gX3_202_X2_immediateS rfl rfl rfl (by decide +kernel) ⟨Nat.le_of_ble_eq_true rfl, Nat.le_of_ble_eq_true rfl⟩) preEq rfl rfl hl.1 rfl (lv_room (Nat.le_of_ble_eq_true rfl)) dX3_storeFloat_22 ⟨Nat.le_of_ble_eq_true rfl, Nat.le_of_ble_eq_true rfl⟩) ?_
    refine W.eq (g2 := F0 m 25 ls [.int (f_X2_immediateS p0), .long (f_X3_x u p0), .int (5 : Int32), .ref h0]) rfl ?_
    refine lv_i2l (v := (f_X2_immediateS p0).toInt64) hx hb dX3_storeFloat_25 rfl ?_
    refine lv_ladd hx hb dX3_storeFloat_26 ?_
    refine lv_iconst (v := (1 : Int32)) hx hb dX3_storeFloat_27 (by decide) ?_
    refine lv_iload_n hx hb dX3_storeFloat_28 rfl (lv_at hl 0 rfl) ?_
    refine lv_ishl hx hb dX3_storeFloat_29 ?_
    refine lv_lconst (v := (0 : Int64)) hx hb dX3_storeFloat_30 (by decide) ?_
    refine lv_iload_n hx hb dX3_storeFloat_31 rfl (lv_at hl 2 rfl) ?_
    refine W.callV (W.runS (As := [.int p0]) (rest := [.long (0 : Int64), .int ((1 : Int32) <<< ((f_X2_f p0) &&& 31)), .long ((f_X3_x u p0) + (f_X2_immediateS p0).toInt64), .int (5 : Int32), .ref h0]) ⟨hx, hb, hml, hown, hts⟩ (mt_X2_code l p0) (va_cwS 1 hts gX3_46_X2_code rfl rfl rfl (by decide +kernel) ⟨Nat.le_of_ble_eq_true rfl, Nat.le_of_ble_eq_true rfl⟩) preEq rfl rfl hl.1 rfl (lv_room (Nat.le_of_ble_eq_true rfl)) dX3_storeFloat_32 ⟨Nat.le_of_ble_eq_true rfl, Nat.le_of_ble_eq_true rfl⟩) ?_
    refine W.eq (g2 := F0 m 35 ls [.int (f_X2_code p0), .long (0 : Int64), .int ((1 : Int32) <<< ((f_X2_f p0) &&& 31)), .long ((f_X3_x u p0) + (f_X2_immediateS p0).toInt64), .int (5 : Int32), .ref h0]) rfl ?_
    refine lv_iconst (v := (0 : Int32)) hx hb dX3_storeFloat_35 (by decide) ?_
    refine wr_calli (wr := []) (va_runV (As := [.int (5 : Int32), .long ((f_X3_x u p0) + (f_X2_immediateS p0).toInt64), .int ((1 : Int32) <<< ((f_X2_f p0) &&& 31)), .long (0 : Int64), .int (f_X2_code p0), .int (0 : Int32)]) (rest := []) ⟨hx, hb, hml, hown, hts⟩ (mt_X3_want l dC dI h0 h1 cA s.heap.size u (5 : Int32) ((f_X3_x u p0) + (f_X2_immediateS p0).toInt64) ((1 : Int32) <<< ((f_X2_f p0) &&& 31)) (0 : Int64) (f_X2_code p0) (0 : Int32)) (cwV 6 hts gX3_108_X3_want rfl rfl rfl (by decide +kernel) ⟨Nat.le_of_ble_eq_true rfl, Nat.le_of_ble_eq_true rfl⟩) (wr_V hK hP hD (ci := 0) (q0 := 0) rfl rfl rfl) rfl rfl hl.1 rfl (lv_room (Nat.le_of_ble_eq_true rfl)) dX3_storeFloat_36 ⟨Nat.le_of_ble_eq_true rfl, Nat.le_of_ble_eq_true rfl⟩) hS hP hD hA [0, 1] [] rfl rfl (by decide) (by decide) (fun r_ v_ H locs hw hP hD hS => ?_)
    obtain ⟨rfl, rfl⟩ := hw
    refine W.eq (g2 := F0 m 39 ls [.int (f_X3_want u (5 : Int32) ((f_X3_x u p0) + (f_X2_immediateS p0).toInt64) ((1 : Int32) <<< ((f_X2_f p0) &&& 31)) (0 : Int64) (f_X2_code p0) (0 : Int32)).1]) rfl ?_
    have hP : va_P (dC, dI) vwCl (Wc h0 h1 cA (f_X3_want u (5 : Int32) ((f_X3_x u p0) + (f_X2_immediateS p0).toInt64) ((1 : Int32) <<< ((f_X2_f p0) &&& 31)) (0 : Int64) (f_X2_code p0) (0 : Int32)).2) H := hP
    have hD : va_D A (Wc h0 h1 cA (f_X3_want u (5 : Int32) ((f_X3_x u p0) + (f_X2_immediateS p0).toInt64) ((1 : Int32) <<< ((f_X2_f p0) &&& 31)) (0 : Int64) (f_X2_code p0) (0 : Int32)).2) := hD
    have hF : f_X3_storeFloat u p0 = ((f_X3_want u (5 : Int32) ((f_X3_x u p0) + (f_X2_immediateS p0).toInt64) ((1 : Int32) <<< ((f_X2_f p0) &&& 31)) (0 : Int64) (f_X2_code p0) (0 : Int32)).1, (f_X3_want u (5 : Int32) ((f_X3_x u p0) + (f_X2_immediateS p0).toInt64) ((1 : Int32) <<< ((f_X2_f p0) &&& 31)) (0 : Int64) (f_X2_code p0) (0 : Int32)).2) := by unfold f_X3_storeFloat; rw [if_neg c1]
    exact W.iret (v := (f_X3_want u (5 : Int32) ((f_X3_x u p0) + (f_X2_immediateS p0).toInt64) ((1 : Int32) <<< ((f_X2_f p0) &&& 31)) (0 : Int64) (f_X2_code p0) (0 : Int32)).1) hx hb hr (fun t ht hW => ⟨⟨(f_X3_want u (5 : Int32) ((f_X3_x u p0) + (f_X2_immediateS p0).toInt64) ((1 : Int32) <<< ((f_X2_f p0) &&& 31)) (0 : Int64) (f_X2_code p0) (0 : Int32)).1, (f_X3_want u (5 : Int32) ((f_X3_x u p0) + (f_X2_immediateS p0).toInt64) ((1 : Int32) <<< ((f_X2_f p0) &&& 31)) (0 : Int64) (f_X2_code p0) (0 : Int32)).2, rfl, ⟨(congrArg Prod.fst hF).symm, (congrArg Prod.snd hF).symm⟩, by rw [ht]; exact hP, va_K.moved hW.alike hK, hD⟩, hS.F ht⟩) hS.2.2 dX3_storeFloat_39
  · refine lv_iconst (v := (-1 : Int32)) hx hb dX3_storeFloat_12 (by decide) ?_
    have hF : f_X3_storeFloat u p0 = ((-1 : Int32), u) := by unfold f_X3_storeFloat; rw [if_pos c1]
    exact W.iret (v := (-1 : Int32)) hx hb hr (fun t ht hW => ⟨⟨(-1 : Int32), u, rfl, ⟨(congrArg Prod.fst hF).symm, (congrArg Prod.snd hF).symm⟩, by rw [ht]; exact hP, va_K.moved hW.alike hK, hD⟩, hS.F ht⟩) hS.2.2 dX3_storeFloat_13

def f_X3_control (u : ScT) (p0 : Int32) : Int32 × ScT :=
  if (f_X2_f p0) = (4 : Int32) then
    ((-1 : Int32), u)
  else if (f_X2_f p0) ≤ (4 : Int32) then
    ((f_X3_want u (6 : Int32) (f_X2_controlNumber p0).toInt64 (0 : Int32) (f_X3_x u p0) (f_X2_f p0) (f_X2_d p0)).1, (f_X3_want u (6 : Int32) (f_X2_controlNumber p0).toInt64 (0 : Int32) (f_X3_x u p0) (f_X2_f p0) (f_X2_d p0)).2)
  else
    ((f_X3_want u (6 : Int32) (f_X2_controlNumber p0).toInt64 (0 : Int32) (f_X2_a p0).toInt64 (f_X2_f p0) (f_X2_d p0)).1, (f_X3_want u (6 : Int32) (f_X2_controlNumber p0).toInt64 (0 : Int32) (f_X2_a p0).toInt64 (f_X2_f p0) (f_X2_d p0)).2)
set_option maxHeartbeats 4000000 in
set_option maxRecDepth 100000 in
theorem mt_X3_control (l : Launch) (dC : Nat → ClassId) (dI : Nat → Nat → Nat) (h0 h1 : Nat) (cA : ClassId) (sz : Nat) (u : ScT) (p0 : Int32) : Met l yX3_control wsX3_control ({ frames := 3, cells := 0, slots := 0, locals := 63 }) (wr_P [.ref h0, .int p0] (dC, dI) vwCl (Wc h0 h1 cA u) [(cA, .long)] sz) (va_Qi (fun r v => r = (f_X3_control u p0).1 ∧ v = (f_X3_control u p0).2) (wr_B (dC, dI) vwCl [(cA, .long)] (va_A (Wc h0 h1 cA u) sz) (Wc h0 h1 cA)) (va_A (Wc h0 h1 cA u) sz)) 0 0 (va_A (Wc h0 h1 cA u) sz) := by
  refine Met.ofW (cc := cX3_control) (maxL := 3) (ret := (some .int)) (by decide) rfl ?_
  intro p e s m args below meth c s₁ B hml hv
  obtain ⟨rfl, hsz, hP, hK, hD0⟩ := hv
  have hx := B.exec
  have hb := B.bytes
  have hr := B.returns
  have hts0 := atoms_spec (ws := wsX3_control) B.pre
  have hts := fun (w : Cond) (h : w ∈ lw_G) => hts0 w (List.mem_cons_of_mem _ h)
  have hown : s.vm.findClass RX3 = some m.cls := findClass_of_methodNamed B.named
  have hlocks := B.notSynchronized
  subst hsz
  have hD := hD0.self (sz := s.heap.size)
  generalize hAe : va_A (Wc h0 h1 cA u) s.heap.size = A at hD ⊢
  have hA : ∀ q : Nat, s.heap.size ≤ q → A q := fun q h => by rw [← hAe]; exact Or.inr h
  have hS : va_S A s.heap s.heap [] := va_S.rf
  have hl := lv_entry ([.ref h0, .int p0]) (n := 3) (Nat.le_of_ble_eq_true rfl)
  rw [lg_entry_eq]
  generalize (lg_sl ([.ref h0, .int p0]) ++ List.replicate (3 - (lg_sl ([.ref h0, .int p0])).length) Slot.unset).toArray = ls at hl ⊢
  have hl : lv_has ls 3 [(0, .ref h0), (1, .int p0)] := hl
  refine lv_iload_n hx hb dX3_control_0 rfl (lv_at hl 1 rfl) ?_
  refine W.callV (W.runS (As := [.int p0]) (rest := []) ⟨hx, hb, hml, hown, hts⟩ (mt_X2_f l p0) (va_cwS 1 hts gX3_157_X2_f rfl rfl rfl (by decide +kernel) ⟨Nat.le_of_ble_eq_true rfl, Nat.le_of_ble_eq_true rfl⟩) preEq rfl rfl hl.1 rfl (lv_room (Nat.le_of_ble_eq_true rfl)) dX3_control_1 ⟨Nat.le_of_ble_eq_true rfl, Nat.le_of_ble_eq_true rfl⟩) ?_
  refine W.eq (g2 := F0 m 4 ls [.int (f_X2_f p0)]) rfl ?_
  refine lv_istore_n (lv' := [(2, .int (f_X2_f p0)), (0, .ref h0), (1, .int p0)]) hx hb dX3_control_4 rfl hl (by decide) rfl (fun ls hl => ?_)
  refine lv_iload_n hx hb dX3_control_5 rfl (lv_at hl 0 rfl) ?_
  refine lv_iconst (v := (4 : Int32)) hx hb dX3_control_6 (by decide) ?_
  refine lv_icmp_ne (tgt := 12) hx hb dX3_control_7 (by decide) (fun c1 => ?_) (fun c1 => ?_)
  · refine lv_aload_n hx hb dX3_control_12 rfl (lv_at hl 1 rfl) ?_
    refine lv_bipush (v := (6 : Int32)) hx hb dX3_control_13 (by decide) ?_
    refine lv_iload_n hx hb dX3_control_15 rfl (lv_at hl 2 rfl) ?_
    refine W.callV (W.runS (As := [.int p0]) (rest := [.int (6 : Int32), .ref h0]) ⟨hx, hb, hml, hown, hts⟩ (mt_X2_controlNumber l p0) (va_cwS 1 hts gX3_215_X2_controlNumber rfl rfl rfl (by decide +kernel) ⟨Nat.le_of_ble_eq_true rfl, Nat.le_of_ble_eq_true rfl⟩) preEq rfl rfl hl.1 rfl (lv_room (Nat.le_of_ble_eq_true rfl)) dX3_control_16 ⟨Nat.le_of_ble_eq_true rfl, Nat.le_of_ble_eq_true rfl⟩) ?_
    refine W.eq (g2 := F0 m 19 ls [.int (f_X2_controlNumber p0), .int (6 : Int32), .ref h0]) rfl ?_
    refine lv_i2l (v := (f_X2_controlNumber p0).toInt64) hx hb dX3_control_19 rfl ?_
    refine lv_iconst (v := (0 : Int32)) hx hb dX3_control_20 (by decide) ?_
    refine lv_iload_n hx hb dX3_control_21 rfl (lv_at hl 0 rfl) ?_
    refine lv_iconst (v := (4 : Int32)) hx hb dX3_control_22 (by decide) ?_
    refine lv_icmp_le (tgt := 34) hx hb dX3_control_23 (by decide) (fun c2 => ?_) (fun c2 => ?_)
    · refine lv_aload_n hx hb dX3_control_34 rfl (lv_at hl 1 rfl) ?_
      refine lv_iload_n hx hb dX3_control_35 rfl (lv_at hl 2 rfl) ?_
      refine W.callV (W.runV (As := [.int p0]) (rest := [.int (0 : Int32), .long (f_X2_controlNumber p0).toInt64, .int (6 : Int32), .ref h0]) ⟨hx, hb, hml, hown, hts⟩ (mt_X3_x l dC dI h0 h1 cA u p0) (cwV 1 hts gX3_101_X3_x rfl rfl rfl (by decide +kernel) ⟨Nat.le_of_ble_eq_true rfl, Nat.le_of_ble_eq_true rfl⟩) (rd_V hK hP (ci := 0) (q0 := 0) rfl rfl rfl) rfl rfl hl.1 rfl (lv_room (Nat.le_of_ble_eq_true rfl)) dX3_control_36 ⟨Nat.le_of_ble_eq_true rfl, Nat.le_of_ble_eq_true rfl⟩) ?_
      refine W.eq (g2 := F0 m 39 ls [.long (f_X3_x u p0), .int (0 : Int32), .long (f_X2_controlNumber p0).toInt64, .int (6 : Int32), .ref h0]) rfl ?_
      refine lv_iload_n hx hb dX3_control_39 rfl (lv_at hl 0 rfl) ?_
      refine lv_iload_n hx hb dX3_control_40 rfl (lv_at hl 2 rfl) ?_
      refine W.callV (W.runS (As := [.int p0]) (rest := [.int (f_X2_f p0), .long (f_X3_x u p0), .int (0 : Int32), .long (f_X2_controlNumber p0).toInt64, .int (6 : Int32), .ref h0]) ⟨hx, hb, hml, hown, hts⟩ (mt_X2_d l p0) (va_cwS 1 hts gX3_105_X2_d rfl rfl rfl (by decide +kernel) ⟨Nat.le_of_ble_eq_true rfl, Nat.le_of_ble_eq_true rfl⟩) preEq rfl rfl hl.1 rfl (lv_room (Nat.le_of_ble_eq_true rfl)) dX3_control_41 ⟨Nat.le_of_ble_eq_true rfl, Nat.le_of_ble_eq_true rfl⟩) ?_
      refine W.eq (g2 := F0 m 44 ls [.int (f_X2_d p0), .int (f_X2_f p0), .long (f_X3_x u p0), .int (0 : Int32), .long (f_X2_controlNumber p0).toInt64, .int (6 : Int32), .ref h0]) rfl ?_
      refine wr_calli (wr := []) (va_runV (As := [.int (6 : Int32), .long (f_X2_controlNumber p0).toInt64, .int (0 : Int32), .long (f_X3_x u p0), .int (f_X2_f p0), .int (f_X2_d p0)]) (rest := []) ⟨hx, hb, hml, hown, hts⟩ (mt_X3_want l dC dI h0 h1 cA s.heap.size u (6 : Int32) (f_X2_controlNumber p0).toInt64 (0 : Int32) (f_X3_x u p0) (f_X2_f p0) (f_X2_d p0)) (cwV 6 hts gX3_108_X3_want rfl rfl rfl (by decide +kernel) ⟨Nat.le_of_ble_eq_true rfl, Nat.le_of_ble_eq_true rfl⟩) (wr_V hK hP hD (ci := 0) (q0 := 0) rfl rfl rfl) rfl rfl hl.1 rfl (lv_room (Nat.le_of_ble_eq_true rfl)) dX3_control_44 ⟨Nat.le_of_ble_eq_true rfl, Nat.le_of_ble_eq_true rfl⟩) hS hP hD hA [0, 1] [] rfl rfl (by decide) (by decide) (fun r_ v_ H locs hw hP hD hS => ?_)
      obtain ⟨rfl, rfl⟩ := hw
      refine W.eq (g2 := F0 m 47 ls [.int (f_X3_want u (6 : Int32) (f_X2_controlNumber p0).toInt64 (0 : Int32) (f_X3_x u p0) (f_X2_f p0) (f_X2_d p0)).1]) rfl ?_
      have hP : va_P (dC, dI) vwCl (Wc h0 h1 cA (f_X3_want u (6 : Int32) (f_X2_controlNumber p0).toInt64 (0 : Int32) (f_X3_x u p0) (f_X2_f p0) (f_X2_d p0)).2) H := hP
      have hD : va_D A (Wc h0 h1 cA (f_X3_want u (6 : Int32) (f_X2_controlNumber p0).toInt64 (0 : Int32) (f_X3_x u p0) (f_X2_f p0) (f_X2_d p0)).2) := hD
      have hF : f_X3_control u p0 = ((f_X3_want u (6 : Int32) (f_X2_controlNumber p0).toInt64 (0 : Int32) (f_X3_x u p0) (f_X2_f p0) (f_X2_d p0)).1, (f_X3_want u (6 : Int32) (f_X2_controlNumber p0).toInt64 (0 : Int32) (f_X3_x u p0) (f_X2_f p0) (f_X2_d p0)).2) := by unfold f_X3_control; rw [if_neg c1, if_pos c2]
      exact W.iret (v := (f_X3_want u (6 : Int32) (f_X2_controlNumber p0).toInt64 (0 : Int32) (f_X3_x u p0) (f_X2_f p0) (f_X2_d p0)).1) hx hb hr (fun t ht hW => ⟨⟨(f_X3_want u (6 : Int32) (f_X2_controlNumber p0).toInt64 (0 : Int32) (f_X3_x u p0) (f_X2_f p0) (f_X2_d p0)).1, (f_X3_want u (6 : Int32) (f_X2_controlNumber p0).toInt64 (0 : Int32) (f_X3_x u p0) (f_X2_f p0) (f_X2_d p0)).2, rfl, ⟨(congrArg Prod.fst hF).symm, (congrArg Prod.snd hF).symm⟩, by rw [ht]; exact hP, va_K.moved hW.alike hK, hD⟩, hS.F ht⟩) hS.2.2 dX3_control_47
    · refine lv_iload_n hx hb dX3_control_26 rfl (lv_at hl 2 rfl) ?_
      refine W.callV (W.runS (As := [.int p0]) (rest := [.int (0 : Int32), .long (f_X2_controlNumber p0).toInt64, .int (6 : Int32), .ref h0]) ⟨hx, hb, hml, hown, hts⟩ (mt_X2_a l p0) (va_cwS 1 hts gX3_148_X2_a rfl rfl rfl (by decide +kernel) ⟨Nat.le_of_ble_eq_true rfl, Nat.le_of_ble_eq_true rfl⟩) preEq rfl rfl hl.1 rfl (lv_room (Nat.le_of_ble_eq_true rfl)) dX3_control_27 ⟨Nat.le_of_ble_eq_true rfl, Nat.le_of_ble_eq_true rfl⟩) ?_
      refine W.eq (g2 := F0 m 30 ls [.int (f_X2_a p0), .int (0 : Int32), .long (f_X2_controlNumber p0).toInt64, .int (6 : Int32), .ref h0]) rfl ?_
      refine lv_i2l (v := (f_X2_a p0).toInt64) hx hb dX3_control_30 rfl ?_
      refine lv_goto (tgt := 39) hx hb dX3_control_31 (by decide) ?_
      refine lv_iload_n hx hb dX3_control_39 rfl (lv_at hl 0 rfl) ?_
      refine lv_iload_n hx hb dX3_control_40 rfl (lv_at hl 2 rfl) ?_
      refine W.callV (W.runS (As := [.int p0]) (rest := [.int (f_X2_f p0), .long (f_X2_a p0).toInt64, .int (0 : Int32), .long (f_X2_controlNumber p0).toInt64, .int (6 : Int32), .ref h0]) ⟨hx, hb, hml, hown, hts⟩ (mt_X2_d l p0) (va_cwS 1 hts gX3_105_X2_d rfl rfl rfl (by decide +kernel) ⟨Nat.le_of_ble_eq_true rfl, Nat.le_of_ble_eq_true rfl⟩) preEq rfl rfl hl.1 rfl (lv_room (Nat.le_of_ble_eq_true rfl)) dX3_control_41 ⟨Nat.le_of_ble_eq_true rfl, Nat.le_of_ble_eq_true rfl⟩) ?_
      refine W.eq (g2 := F0 m 44 ls [.int (f_X2_d p0), .int (f_X2_f p0), .long (f_X2_a p0).toInt64, .int (0 : Int32), .long (f_X2_controlNumber p0).toInt64, .int (6 : Int32), .ref h0]) rfl ?_
      refine wr_calli (wr := []) (va_runV (As := [.int (6 : Int32), .long (f_X2_controlNumber p0).toInt64, .int (0 : Int32), .long (f_X2_a p0).toInt64, .int (f_X2_f p0), .int (f_X2_d p0)]) (rest := []) ⟨hx, hb, hml, hown, hts⟩ (mt_X3_want l dC dI h0 h1 cA s.heap.size u (6 : Int32) (f_X2_controlNumber p0).toInt64 (0 : Int32) (f_X2_a p0).toInt64 (f_X2_f p0) (f_X2_d p0)) (cwV 6 hts gX3_108_X3_want rfl rfl rfl (by decide +kernel) ⟨Nat.le_of_ble_eq_true rfl, Nat.le_of_ble_eq_true rfl⟩) (wr_V hK hP hD (ci := 0) (q0 := 0) rfl rfl rfl) rfl rfl hl.1 rfl (lv_room (Nat.le_of_ble_eq_true rfl)) dX3_control_44 ⟨Nat.le_of_ble_eq_true rfl, Nat.le_of_ble_eq_true rfl⟩) hS hP hD hA [0, 1] [] rfl rfl (by decide) (by decide) (fun r_ v_ H locs hw hP hD hS => ?_)
      obtain ⟨rfl, rfl⟩ := hw
      refine W.eq (g2 := F0 m 47 ls [.int (f_X3_want u (6 : Int32) (f_X2_controlNumber p0).toInt64 (0 : Int32) (f_X2_a p0).toInt64 (f_X2_f p0) (f_X2_d p0)).1]) rfl ?_
      have hP : va_P (dC, dI) vwCl (Wc h0 h1 cA (f_X3_want u (6 : Int32) (f_X2_controlNumber p0).toInt64 (0 : Int32) (f_X2_a p0).toInt64 (f_X2_f p0) (f_X2_d p0)).2) H := hP
      have hD : va_D A (Wc h0 h1 cA (f_X3_want u (6 : Int32) (f_X2_controlNumber p0).toInt64 (0 : Int32) (f_X2_a p0).toInt64 (f_X2_f p0) (f_X2_d p0)).2) := hD
      have hF : f_X3_control u p0 = ((f_X3_want u (6 : Int32) (f_X2_controlNumber p0).toInt64 (0 : Int32) (f_X2_a p0).toInt64 (f_X2_f p0) (f_X2_d p0)).1, (f_X3_want u (6 : Int32) (f_X2_controlNumber p0).toInt64 (0 : Int32) (f_X2_a p0).toInt64 (f_X2_f p0) (f_X2_d p0)).2) := by unfold f_X3_control; rw [if_neg c1, if_neg c2]
      exact W.iret (v := (f_X3_want u (6 : Int32) (f_X2_controlNumber p0).toInt64 (0 : Int32) (f_X2_a p0).toInt64 (f_X2_f p0) (f_X2_d p0)).1) hx hb hr (fun t ht hW => ⟨⟨(f_X3_want u (6 : Int32) (f_X2_controlNumber p0).toInt64 (0 : Int32) (f_X2_a p0).toInt64 (f_X2_f p0) (f_X2_d p0)).1, (f_X3_want u (6 : Int32) (f_X2_controlNumber p0).toInt64 (0 : Int32) (f_X2_a p0).toInt64 (f_X2_f p0) (f_X2_d p0)).2, rfl, ⟨(congrArg Prod.fst hF).symm, (congrArg Prod.snd hF).symm⟩, by rw [ht]; exact hP, va_K.moved hW.alike hK, hD⟩, hS.F ht⟩) hS.2.2 dX3_control_47
  · refine lv_iconst (v := (-1 : Int32)) hx hb dX3_control_10 (by decide) ?_
    have hF : f_X3_control u p0 = ((-1 : Int32), u) := by unfold f_X3_control; rw [if_pos c1]
    exact W.iret (v := (-1 : Int32)) hx hb hr (fun t ht hW => ⟨⟨(-1 : Int32), u, rfl, ⟨(congrArg Prod.fst hF).symm, (congrArg Prod.snd hF).symm⟩, by rw [ht]; exact hP, va_K.moved hW.alike hK, hD⟩, hS.F ht⟩) hS.2.2 dX3_control_11
