abbrev uc0 : ScT := ((fun _ => 0), 0, 0, 0, 0, 0, 0, 0, 0, 0)
abbrev um0 : SmT := (0, (fun _ => 0), 0, 0, 0, 0, 0, 0, (-1), 0, (fun _ => 0), 0, 0)
set_option maxHeartbeats 4000000 in
set_option maxRecDepth 100000 in
theorem mt_X3_init (l : Launch) (dC : Nat → ClassId) (dI : Nat → Nat → Nat) (h0 sz : Nat) : Met l yX3_init wsX3_init ({ frames := 1, cells := 1, slots := 32, locals := 12 }) (wr_P [.ref h0] (dC, dI) vwCl [(h0, .inr (0, [.null, .long 0, .long 0, .int 0, .int 0, .long 0, .int 0, .long 0, .int 0, .int 0]))] [] sz) (va_Qv (fun _ : Unit => True) (fun (_ : Unit) (t : State) => ∃ (h1 : Nat) (cA : ClassId), va_P (dC, dI) vwCl (Wc h0 h1 cA uc0) t.heap ∧ va_K (dC, dI) vwCl [(cA, .long)] t ∧ va_D (va_A [(h0, .inr (0, [.null, .long 0, .long 0, .int 0, .int 0, .long 0, .int 0, .long 0, .int 0, .int 0]))] sz) (Wc h0 h1 cA uc0)) (va_A [(h0, .inr (0, [.null, .long 0, .long 0, .int 0, .int 0, .long 0, .int 0, .long 0, .int 0, .int 0]))] sz)) 1 32 (va_A [(h0, .inr (0, [.null, .long 0, .long 0, .int 0, .int 0, .long 0, .int 0, .long 0, .int 0, .int 0]))] sz) := by
  refine Met.ofW (cc := cX3_init) (maxL := 1) (ret := none) (by decide) rfl ?_
  intro p e s m args below meth c s₁ B hml hv
  obtain ⟨rfl, hsz, hP, hK, hD0⟩ := hv
  have hx := B.exec
  have hb := B.bytes
  have hr := B.returns
  have hts0 := atoms_spec (ws := wsX3_init) B.pre
  have hts := fun (w : Cond) (h : w ∈ lw_G) => hts0 w (List.mem_cons_of_mem _ h)
  have hown : s.vm.findClass RX3 = some m.cls := findClass_of_methodNamed B.named
  have hlocks := B.notSynchronized
  have hin : meth.name = "<init>" := (name_of_methodNamed B.named B.method).1
  subst hsz
  have hD := hD0.self (sz := s.heap.size)
  generalize hAe : va_A [(h0, .inr (0, [.null, .long 0, .long 0, .int 0, .int 0, .long 0, .int 0, .long 0, .int 0, .int 0]))] s.heap.size = A at hD ⊢
  have hA : ∀ q : Nat, s.heap.size ≤ q → A q := fun q h => by rw [← hAe]; exact Or.inr h
  have hS : va_S A s.heap s.heap [] := va_S.rf
  have hl := lv_entry ([.ref h0]) (n := 1) (Nat.le_of_ble_eq_true rfl)
  rw [lg_entry_eq]
  generalize (lg_sl ([.ref h0]) ++ List.replicate (1 - (lg_sl ([.ref h0])).length) Slot.unset).toArray = ls at hl ⊢
  have hl : lv_has ls 1 [(0, .ref h0)] := hl
  refine lv_aload_n hx hb dX3_init_0 rfl (lv_at hl 0 rfl) ?_
  refine W.objInit hx hb hown (hts _ qw_387) (hts _ qw_388) (hts _ qw_389) rfl (by rw [hml]; exact hl.1) rfl dX3_init_1 (Nat.le_of_ble_eq_true rfl) (Nat.le_of_ble_eq_true rfl) ?_
  refine W.eq (g2 := F0 m 4 ls []) rfl ?_
  refine lv_aload_n hx hb dX3_init_4 rfl (lv_at hl 0 rfl) ?_
  refine lv_bipush (v := (32 : Int32)) hx hb dX3_init_5 (by decide) ?_
  refine va_newa (atype := .long) (N' := 32) (a0 := (32, .inr (.inl (fun _ => 0)))) (ty := .long) (n := (32 : Int32)) hx hb (hts _ qw_390) rfl hK hP hD hS hA (fun _ => rfl) (by decide) (by decide) (by decide) (Nat.le_of_ble_eq_true rfl) (Nat.le_of_ble_eq_true rfl) dX3_init_7 (fun q0 c0 H hK hP hD hS => ?_)
  have hP : va_P (dC, dI) vwCl [(h0, .inr (0, [.null, .long 0, .long 0, .int 0, .int 0, .long 0, .int 0, .long 0, .int 0, .int 0])), (q0, .inl (c0, 32, .inr (.inl (fun _ => 0))))] H := hP
  have hD : va_D A [(h0, .inr (0, [.null, .long 0, .long 0, .int 0, .int 0, .long 0, .int 0, .long 0, .int 0, .int 0])), (q0, .inl (c0, 32, .inr (.inl (fun _ => 0))))] := hD
  have hK : va_K (dC, dI) vwCl [(c0, .long)] s := hK
  refine W.widen (k := 1) (n := 32) (by omega) (by omega) ?_
  refine va_putF (D := (dC, dI)) (ci := 0) (v := .ref q0) (ty := (.array .long)) (C := RX3) (T := TX3) (N := 10) hx hb hts inX3 tyX3 tyX3_ok nmX3 hown hK hP hD hS 0 rfl rfl 0 (by decide) (hts _ qw_50) (fun _ h9 => h9) rfl hin rfl (by decide +kernel) rfl rfl (Nat.le_of_ble_eq_true rfl) dX3_init_9 (fun H locs hP hD hS => ?_)
  have hP : va_P (dC, dI) vwCl [(h0, .inr (0, [.ref q0, .long 0, .long 0, .int 0, .int 0, .long 0, .int 0, .long 0, .int 0, .int 0])), (q0, .inl (c0, 32, .inr (.inl (fun _ => 0))))] H := hP
  have hD : va_D A [(h0, .inr (0, [.ref q0, .long 0, .long 0, .int 0, .int 0, .long 0, .int 0, .long 0, .int 0, .int 0])), (q0, .inl (c0, 32, .inr (.inl (fun _ => 0))))] := hD
  refine lv_aload_n hx hb dX3_init_12 rfl (lv_at hl 0 rfl) ?_
  refine lv_iconst (v := (0 : Int32)) hx hb dX3_init_13 (by decide) ?_
  refine va_put (D := (dC, dI)) (ci := 0) (v := .int (0 : Int32)) (ty := .int) (C := RX3) (T := TX3) (N := 10) hx hb hts inX3 tyX3 tyX3_ok nmX3 hown hK hP hD hS 0 rfl rfl 4 (by decide) (hts _ qw_61) (fun _ h9 => h9) rfl (by decide +kernel) rfl rfl (Nat.le_of_ble_eq_true rfl) dX3_init_14 (fun H locs hP hD hS => ?_)
  have hP : va_P (dC, dI) vwCl [(h0, .inr (0, [.ref q0, .long 0, .long 0, .int 0, .int (0 : Int32), .long 0, .int 0, .long 0, .int 0, .int 0])), (q0, .inl (c0, 32, .inr (.inl (fun _ => 0))))] H := hP
  have hD : va_D A [(h0, .inr (0, [.ref q0, .long 0, .long 0, .int 0, .int (0 : Int32), .long 0, .int 0, .long 0, .int 0, .int 0])), (q0, .inl (c0, 32, .inr (.inl (fun _ => 0))))] := hD
  have hP9 : va_P (dC, dI) vwCl (Wc h0 q0 c0 uc0) H := hP
  have hD9 : va_D A (Wc h0 q0 c0 uc0) := hD
  exact W.vret hx hb hr (fun t ht hW => ⟨⟨(), rfl, trivial, q0, c0, by rw [ht]; exact hP9, va_K.moved hW.alike hK, hD9⟩, hS.F ht⟩) hS.2.2 dX3_init_17
set_option maxHeartbeats 4000000 in
set_option maxRecDepth 100000 in
theorem mt_X4_init (l : Launch) (dC : Nat → ClassId) (dI : Nat → Nat → Nat) (g0 sz : Nat) : Met l yX4_init wsX4_init ({ frames := 1, cells := 2, slots := 37, locals := 12 }) (wr_P [.ref g0] (dC, dI) vwCl [(g0, .inr (1, [.int 0, .null, .long 0, .long 0, .int 0, .int 0, .long 0, .long 0, .int 0, .int 0, .null, .long 0, .long 0]))] [] sz) (va_Qv (fun _ : Unit => True) (fun (_ : Unit) (t : State) => ∃ (g1 g2 : Nat) (cB cC : ClassId), va_P (dC, dI) vwCl (Wm g0 g1 g2 cB cC um0) t.heap ∧ va_K (dC, dI) vwCl [(cB, .long), (cC, .long)] t ∧ va_D (va_A [(g0, .inr (1, [.int 0, .null, .long 0, .long 0, .int 0, .int 0, .long 0, .long 0, .int 0, .int 0, .null, .long 0, .long 0]))] sz) (Wm g0 g1 g2 cB cC um0)) (va_A [(g0, .inr (1, [.int 0, .null, .long 0, .long 0, .int 0, .int 0, .long 0, .long 0, .int 0, .int 0, .null, .long 0, .long 0]))] sz)) 2 37 (va_A [(g0, .inr (1, [.int 0, .null, .long 0, .long 0, .int 0, .int 0, .long 0, .long 0, .int 0, .int 0, .null, .long 0, .long 0]))] sz) := by
  refine Met.ofW (cc := cX4_init) (maxL := 1) (ret := none) (by decide) rfl ?_
  intro p e s m args below meth c s₁ B hml hv
  obtain ⟨rfl, hsz, hP, hK, hD0⟩ := hv
  have hx := B.exec
  have hb := B.bytes
  have hr := B.returns
  have hts0 := atoms_spec (ws := wsX4_init) B.pre
  have hts := fun (w : Cond) (h : w ∈ lw_G) => hts0 w (List.mem_cons_of_mem _ h)
  have hown : s.vm.findClass RX4 = some m.cls := findClass_of_methodNamed B.named
  have hlocks := B.notSynchronized
  have hin : meth.name = "<init>" := (name_of_methodNamed B.named B.method).1
  subst hsz
  have hD := hD0.self (sz := s.heap.size)
  generalize hAe : va_A [(g0, .inr (1, [.int 0, .null, .long 0, .long 0, .int 0, .int 0, .long 0, .long 0, .int 0, .int 0, .null, .long 0, .long 0]))] s.heap.size = A at hD ⊢
  have hA : ∀ q : Nat, s.heap.size ≤ q → A q := fun q h => by rw [← hAe]; exact Or.inr h
  have hS : va_S A s.heap s.heap [] := va_S.rf
  have hl := lv_entry ([.ref g0]) (n := 1) (Nat.le_of_ble_eq_true rfl)
  rw [lg_entry_eq]
  generalize (lg_sl ([.ref g0]) ++ List.replicate (1 - (lg_sl ([.ref g0])).length) Slot.unset).toArray = ls at hl ⊢
  have hl : lv_has ls 1 [(0, .ref g0)] := hl
  refine lv_aload_n hx hb dX4_init_0 rfl (lv_at hl 0 rfl) ?_
  refine W.objInit hx hb hown (hts _ qw_391) (hts _ qw_388) (hts _ qw_389) rfl (by rw [hml]; exact hl.1) rfl dX4_init_1 (Nat.le_of_ble_eq_true rfl) (Nat.le_of_ble_eq_true rfl) ?_
  refine W.eq (g2 := F0 m 4 ls []) rfl ?_
  refine lv_aload_n hx hb dX4_init_4 rfl (lv_at hl 0 rfl) ?_
  refine lv_bipush (v := (32 : Int32)) hx hb dX4_init_5 (by decide) ?_
  refine va_newa (atype := .long) (N' := 32) (a0 := (32, .inr (.inl (fun _ => 0)))) (ty := .long) (n := (32 : Int32)) hx hb (hts _ qw_390) rfl hK hP hD hS hA (fun _ => rfl) (by decide) (by decide) (by decide) (Nat.le_of_ble_eq_true rfl) (Nat.le_of_ble_eq_true rfl) dX4_init_7 (fun q0 c0 H hK hP hD hS => ?_)
  have hP : va_P (dC, dI) vwCl [(g0, .inr (1, [.int 0, .null, .long 0, .long 0, .int 0, .int 0, .long 0, .long 0, .int 0, .int 0, .null, .long 0, .long 0])), (q0, .inl (c0, 32, .inr (.inl (fun _ => 0))))] H := hP
  have hD : va_D A [(g0, .inr (1, [.int 0, .null, .long 0, .long 0, .int 0, .int 0, .long 0, .long 0, .int 0, .int 0, .null, .long 0, .long 0])), (q0, .inl (c0, 32, .inr (.inl (fun _ => 0))))] := hD
  have hK : va_K (dC, dI) vwCl [(c0, .long)] s := hK
  refine W.widen (k := 1) (n := 32) (by omega) (by omega) ?_
  refine va_putF (D := (dC, dI)) (ci := 1) (v := .ref q0) (ty := (.array .long)) (C := RX4) (T := TX4) (N := 13) hx hb hts inX4 tyX4 tyX4_ok nmX4 hown hK hP hD hS 0 rfl rfl 1 (by decide) (hts _ qw_273) (fun _ h9 => h9) rfl hin rfl (by decide +kernel) rfl rfl (Nat.le_of_ble_eq_true rfl) dX4_init_9 (fun H locs hP hD hS => ?_)
  have hP : va_P (dC, dI) vwCl [(g0, .inr (1, [.int 0, .ref q0, .long 0, .long 0, .int 0, .int 0, .long 0, .long 0, .int 0, .int 0, .null, .long 0, .long 0])), (q0, .inl (c0, 32, .inr (.inl (fun _ => 0))))] H := hP
  have hD : va_D A [(g0, .inr (1, [.int 0, .ref q0, .long 0, .long 0, .int 0, .int 0, .long 0, .long 0, .int 0, .int 0, .null, .long 0, .long 0])), (q0, .inl (c0, 32, .inr (.inl (fun _ => 0))))] := hD
  refine lv_aload_n hx hb dX4_init_12 rfl (lv_at hl 0 rfl) ?_
  refine lv_iconst (v := (-1 : Int32)) hx hb dX4_init_13 (by decide) ?_
  refine va_put (D := (dC, dI)) (ci := 1) (v := .int (-1 : Int32)) (ty := .int) (C := RX4) (T := TX4) (N := 13) hx hb hts inX4 tyX4 tyX4_ok nmX4 hown hK hP hD hS 0 rfl rfl 8 (by decide) (hts _ qw_282) (fun _ h9 => h9) rfl (by decide +kernel) rfl rfl (Nat.le_of_ble_eq_true rfl) dX4_init_14 (fun H locs hP hD hS => ?_)
  have hP : va_P (dC, dI) vwCl [(g0, .inr (1, [.int 0, .ref q0, .long 0, .long 0, .int 0, .int 0, .long 0, .long 0, .int (-1 : Int32), .int 0, .null, .long 0, .long 0])), (q0, .inl (c0, 32, .inr (.inl (fun _ => 0))))] H := hP
  have hD : va_D A [(g0, .inr (1, [.int 0, .ref q0, .long 0, .long 0, .int 0, .int 0, .long 0, .long 0, .int (-1 : Int32), .int 0, .null, .long 0, .long 0])), (q0, .inl (c0, 32, .inr (.inl (fun _ => 0))))] := hD
  refine lv_aload_n hx hb dX4_init_17 rfl (lv_at hl 0 rfl) ?_
  refine lv_iconst (v := (5 : Int32)) hx hb dX4_init_18 (by decide) ?_
  refine va_newa (atype := .long) (N' := 5) (a0 := (5, .inr (.inl (fun _ => 0)))) (ty := .long) (n := (5 : Int32)) hx hb (hts _ qw_390) rfl hK hP hD hS hA (fun _ => rfl) (by decide) (by decide) (by decide) (Nat.le_of_ble_eq_true rfl) (Nat.le_of_ble_eq_true rfl) dX4_init_19 (fun q1 c1 H hK hP hD hS => ?_)
  have hP : va_P (dC, dI) vwCl [(g0, .inr (1, [.int 0, .ref q0, .long 0, .long 0, .int 0, .int 0, .long 0, .long 0, .int (-1 : Int32), .int 0, .null, .long 0, .long 0])), (q0, .inl (c0, 32, .inr (.inl (fun _ => 0)))), (q1, .inl (c1, 5, .inr (.inl (fun _ => 0))))] H := hP
  have hD : va_D A [(g0, .inr (1, [.int 0, .ref q0, .long 0, .long 0, .int 0, .int 0, .long 0, .long 0, .int (-1 : Int32), .int 0, .null, .long 0, .long 0])), (q0, .inl (c0, 32, .inr (.inl (fun _ => 0)))), (q1, .inl (c1, 5, .inr (.inl (fun _ => 0))))] := hD
  have hK : va_K (dC, dI) vwCl [(c0, .long), (c1, .long)] s := hK
  refine W.widen (k := 2) (n := 37) (by omega) (by omega) ?_
  refine va_putF (D := (dC, dI)) (ci := 1) (v := .ref q1) (ty := (.array .long)) (C := RX4) (T := TX4) (N := 13) hx hb hts inX4 tyX4 tyX4_ok nmX4 hown hK hP hD hS 0 rfl rfl 10 (by decide) (hts _ qw_271) (fun _ h9 => h9) rfl hin rfl (by decide +kernel) rfl rfl (Nat.le_of_ble_eq_true rfl) dX4_init_21 (fun H locs hP hD hS => ?_)
  have hP : va_P (dC, dI) vwCl [(g0, .inr (1, [.int 0, .ref q0, .long 0, .long 0, .int 0, .int 0, .long 0, .long 0, .int (-1 : Int32), .int 0, .ref q1, .long 0, .long 0])), (q0, .inl (c0, 32, .inr (.inl (fun _ => 0)))), (q1, .inl (c1, 5, .inr (.inl (fun _ => 0))))] H := hP
  have hD : va_D A [(g0, .inr (1, [.int 0, .ref q0, .long 0, .long 0, .int 0, .int 0, .long 0, .long 0, .int (-1 : Int32), .int 0, .ref q1, .long 0, .long 0])), (q0, .inl (c0, 32, .inr (.inl (fun _ => 0)))), (q1, .inl (c1, 5, .inr (.inl (fun _ => 0))))] := hD
  have hP9 : va_P (dC, dI) vwCl (Wm g0 q0 q1 c0 c1 um0) H := hP
  have hD9 : va_D A (Wm g0 q0 q1 c0 c1 um0) := hD
  exact W.vret hx hb hr (fun t ht hW => ⟨⟨(), rfl, trivial, q0, q1, c0, c1, by rw [ht]; exact hP9, va_K.moved hW.alike hK, hD9⟩, hS.F ht⟩) hS.2.2 dX4_init_24
