noncomputable def f_X4_product (u : SmT) (p0 : Int32) : Int64 × SmT :=
  if p0 = (0 : Int32) then
    ((u.2.2.2.2.2.2.1 * u.2.2.2.2.2.2.2.1), u)
  else if p0 = (1 : Int32) then
    if (0 : Int64) ≤ u.2.2.2.2.2.2.1 then
      if (0 : Int64) ≤ u.2.2.2.2.2.2.2.1 then
        ((((f_X4_upper u.2.2.2.2.2.2.1 u.2.2.2.2.2.2.2.1) - (0 : Int64)) - (0 : Int64)), u)
      else
        ((((f_X4_upper u.2.2.2.2.2.2.1 u.2.2.2.2.2.2.2.1) - (0 : Int64)) - u.2.2.2.2.2.2.1), u)
    else if (0 : Int64) ≤ u.2.2.2.2.2.2.2.1 then
      ((((f_X4_upper u.2.2.2.2.2.2.1 u.2.2.2.2.2.2.2.1) - u.2.2.2.2.2.2.2.1) - (0 : Int64)), u)
    else
      ((((f_X4_upper u.2.2.2.2.2.2.1 u.2.2.2.2.2.2.2.1) - u.2.2.2.2.2.2.2.1) - u.2.2.2.2.2.2.1), u)
  else if p0 = (2 : Int32) then
    if (0 : Int64) ≤ u.2.2.2.2.2.2.1 then
      (((f_X4_upper u.2.2.2.2.2.2.1 u.2.2.2.2.2.2.2.1) - (0 : Int64)), u)
    else
      (((f_X4_upper u.2.2.2.2.2.2.1 u.2.2.2.2.2.2.2.1) - u.2.2.2.2.2.2.2.1), u)
  else if p0 = (3 : Int32) then
    ((f_X4_upper u.2.2.2.2.2.2.1 u.2.2.2.2.2.2.2.1), u)
  else if p0 = (4 : Int32) then
    if (6 : Int32) ≤ p0 then
      ((f_X4_divideAll u u.2.2.2.2.2.2.1 u.2.2.2.2.2.2.2.1 (1 : Int32)).2.2.2.2.2.2.2.2.2.2.2.2, (f_X4_divideAll u u.2.2.2.2.2.2.1 u.2.2.2.2.2.2.2.1 (1 : Int32)))
    else
      ((f_X4_divideAll u u.2.2.2.2.2.2.1 u.2.2.2.2.2.2.2.1 (1 : Int32)).2.2.2.2.2.2.2.2.2.2.2.1, (f_X4_divideAll u u.2.2.2.2.2.2.1 u.2.2.2.2.2.2.2.1 (1 : Int32)))
  else if p0 = (6 : Int32) then
    if (6 : Int32) ≤ p0 then
      ((f_X4_divideAll u u.2.2.2.2.2.2.1 u.2.2.2.2.2.2.2.1 (1 : Int32)).2.2.2.2.2.2.2.2.2.2.2.2, (f_X4_divideAll u u.2.2.2.2.2.2.1 u.2.2.2.2.2.2.2.1 (1 : Int32)))
    else
      ((f_X4_divideAll u u.2.2.2.2.2.2.1 u.2.2.2.2.2.2.2.1 (1 : Int32)).2.2.2.2.2.2.2.2.2.2.2.1, (f_X4_divideAll u u.2.2.2.2.2.2.1 u.2.2.2.2.2.2.2.1 (1 : Int32)))
  else if (6 : Int32) ≤ p0 then
    ((f_X4_divideAll u u.2.2.2.2.2.2.1 u.2.2.2.2.2.2.2.1 (0 : Int32)).2.2.2.2.2.2.2.2.2.2.2.2, (f_X4_divideAll u u.2.2.2.2.2.2.1 u.2.2.2.2.2.2.2.1 (0 : Int32)))
  else
    ((f_X4_divideAll u u.2.2.2.2.2.2.1 u.2.2.2.2.2.2.2.1 (0 : Int32)).2.2.2.2.2.2.2.2.2.2.2.1, (f_X4_divideAll u u.2.2.2.2.2.2.1 u.2.2.2.2.2.2.2.1 (0 : Int32)))
set_option maxHeartbeats 4000000 in
set_option maxRecDepth 100000 in
theorem mt_X4_product (l : Launch) (dC : Nat → ClassId) (dI : Nat → Nat → Nat) (g0 g1 g2 : Nat) (cB cC : ClassId) (sz : Nat) (u : SmT) (p0 : Int32) : Met l yX4_product wsX4_product ({ frames := 3, cells := 0, slots := 0, locals := 76 }) (wr_P [.ref g0, .int p0] (dC, dI) vwCl (Wm g0 g1 g2 cB cC u) [(cB, .long), (cC, .long)] sz) (va_Ql (fun r v => r = (f_X4_product u p0).1 ∧ v = (f_X4_product u p0).2) (wr_B (dC, dI) vwCl [(cB, .long), (cC, .long)] (va_A (Wm g0 g1 g2 cB cC u) sz) (Wm g0 g1 g2 cB cC)) (va_A (Wm g0 g1 g2 cB cC u) sz)) 0 0 (va_A (Wm g0 g1 g2 cB cC u) sz) := by
  refine Met.ofW (cc := cX4_product) (maxL := 2) (ret := (some .long)) (by decide) rfl ?_
  intro p e s m args below meth c s₁ B hml hv
  obtain ⟨rfl, hsz, hP, hK, hD0⟩ := hv
  have hx := B.exec
  have hb := B.bytes
  have hr := B.returns
  have hts0 := atoms_spec (ws := wsX4_product) B.pre
  have hts := fun (w : Cond) (h : w ∈ lw_G) => hts0 w (List.mem_cons_of_mem _ h)
  have hown : s.vm.findClass RX4 = some m.cls := findClass_of_methodNamed B.named
  have hlocks := B.notSynchronized
  subst hsz
  have hD := hD0.self (sz := s.heap.size)
  generalize hAe : va_A (Wm g0 g1 g2 cB cC u) s.heap.size = A at hD ⊢
  have hA : ∀ q : Nat, s.heap.size ≤ q → A q := fun q h => by rw [← hAe]; exact Or.inr h
  have hS : va_S A s.heap s.heap [] := va_S.rf
  have hl := lv_entry ([.ref g0, .int p0]) (n := 2) (Nat.le_of_ble_eq_true rfl)
  rw [lg_entry_eq]
  generalize (lg_sl ([.ref g0, .int p0]) ++ List.replicate (2 - (lg_sl ([.ref g0, .int p0])).length) Slot.unset).toArray = ls at hl ⊢
  have hl : lv_has ls 2 [(0, .ref g0), (1, .int p0)] := hl
  refine lv_iload_n hx hb dX4_product_0 rfl (lv_at hl 1 rfl) ?_
  by_cases c1 : p0 = (0 : Int32)
  · refine lv_tableIn (tgt := 32) (off := 31) hx hb dX4_product_1 (by rw [c1]; decide) (by rw [c1]; decide) (by rw [c1]; decide +kernel) (by decide) ?_
    refine lv_aload_n hx hb dX4_product_32 rfl (lv_at hl 0 rfl) ?_
    refine va_get (D := (dC, dI)) (ci := 1) (v := .long u.2.2.2.2.2.2.1) (C := RX4) (T := TX4) (N := 13) hx hb hts inX4 hown hK hP 0 rfl rfl 6 (by decide) (hts _ qw_287) (fun _ h9 => h9) rfl dX4_product_33 ?_
    refine lv_aload_n hx hb dX4_product_36 rfl (lv_at hl 0 rfl) ?_
    refine va_get (D := (dC, dI)) (ci := 1) (v := .long u.2.2.2.2.2.2.2.1) (C := RX4) (T := TX4) (N := 13) hx hb hts inX4 hown hK hP 0 rfl rfl 7 (by decide) (hts _ qw_288) (fun _ h9 => h9) rfl dX4_product_37 ?_
    refine lv_lmul hx hb dX4_product_40 ?_
    have hF : f_X4_product u p0 = ((u.2.2.2.2.2.2.1 * u.2.2.2.2.2.2.2.1), u) := by unfold f_X4_product; rw [if_pos c1]
    exact W.lret (v := (u.2.2.2.2.2.2.1 * u.2.2.2.2.2.2.2.1)) hx hb hr (fun t ht hW => ⟨⟨(u.2.2.2.2.2.2.1 * u.2.2.2.2.2.2.2.1), u, rfl, ⟨(congrArg Prod.fst hF).symm, (congrArg Prod.snd hF).symm⟩, by rw [ht]; exact hP, va_K.moved hW.alike hK, hD⟩, hS.F ht⟩) hS.2.2 dX4_product_41
  · by_cases c2 : p0 = (1 : Int32)
    · refine lv_tableIn (tgt := 42) (off := 41) hx hb dX4_product_1 (by rw [c2]; decide) (by rw [c2]; decide) (by rw [c2]; decide +kernel) (by decide) ?_
      refine lv_aload_n hx hb dX4_product_42 rfl (lv_at hl 0 rfl) ?_
      refine va_get (D := (dC, dI)) (ci := 1) (v := .long u.2.2.2.2.2.2.1) (C := RX4) (T := TX4) (N := 13) hx hb hts inX4 hown hK hP 0 rfl rfl 6 (by decide) (hts _ qw_287) (fun _ h9 => h9) rfl dX4_product_43 ?_
      refine lv_aload_n hx hb dX4_product_46 rfl (lv_at hl 0 rfl) ?_
      refine va_get (D := (dC, dI)) (ci := 1) (v := .long u.2.2.2.2.2.2.2.1) (C := RX4) (T := TX4) (N := 13) hx hb hts inX4 hown hK hP 0 rfl rfl 7 (by decide) (hts _ qw_288) (fun _ h9 => h9) rfl dX4_product_47 ?_
      refine W.callV (W.runS (As := [.long u.2.2.2.2.2.2.1, .long u.2.2.2.2.2.2.2.1]) (rest := []) ⟨hx, hb, hml, hown, hts⟩ (mt_X4_upper l u.2.2.2.2.2.2.1 u.2.2.2.2.2.2.2.1) (va_cwS 2 hts gX4_110_X4_upper rfl rfl rfl (by decide +kernel) ⟨Nat.le_of_ble_eq_true rfl, Nat.le_of_ble_eq_true rfl⟩) preEq rfl rfl hl.1 rfl (lv_room (Nat.le_of_ble_eq_true rfl)) dX4_product_50 ⟨Nat.le_of_ble_eq_true rfl, Nat.le_of_ble_eq_true rfl⟩) ?_
      refine W.eq (g2 := F0 m 53 ls [.long (f_X4_upper u.2.2.2.2.2.2.1 u.2.2.2.2.2.2.2.1)]) rfl ?_
      refine lv_aload_n hx hb dX4_product_53 rfl (lv_at hl 0 rfl) ?_
      refine va_get (D := (dC, dI)) (ci := 1) (v := .long u.2.2.2.2.2.2.1) (C := RX4) (T := TX4) (N := 13) hx hb hts inX4 hown hK hP 0 rfl rfl 6 (by decide) (hts _ qw_287) (fun _ h9 => h9) rfl dX4_product_54 ?_
      refine lv_lconst (v := (0 : Int64)) hx hb dX4_product_57 (by decide) ?_
      refine W.lcmp hx hb dX4_product_58 ?_
      refine lv_if_ge (tgt := 69) hx hb dX4_product_59 (by decide) (fun c3 => ?_) (fun c3 => ?_)
      · have c3 := (lg_cmp_ge u.2.2.2.2.2.2.1 (0 : Int64)).mp c3
        refine lv_lconst (v := (0 : Int64)) hx hb dX4_product_69 (by decide) ?_
        refine lv_lsub hx hb dX4_product_70 ?_
        refine lv_aload_n hx hb dX4_product_71 rfl (lv_at hl 0 rfl) ?_
        refine va_get (D := (dC, dI)) (ci := 1) (v := .long u.2.2.2.2.2.2.2.1) (C := RX4) (T := TX4) (N := 13) hx hb hts inX4 hown hK hP 0 rfl rfl 7 (by decide) (hts _ qw_288) (fun _ h9 => h9) rfl dX4_product_72 ?_
        refine lv_lconst (v := (0 : Int64)) hx hb dX4_product_75 (by decide) ?_
        refine W.lcmp hx hb dX4_product_76 ?_
        refine lv_if_ge (tgt := 87) hx hb dX4_product_77 (by decide) (fun c4 => ?_) (fun c4 => ?_)
        · have c4 := (lg_cmp_ge u.2.2.2.2.2.2.2.1 (0 : Int64)).mp c4
          refine lv_lconst (v := (0 : Int64)) hx hb dX4_product_87 (by decide) ?_
          refine lv_lsub hx hb dX4_product_88 ?_
          have hF : f_X4_product u p0 = ((((f_X4_upper u.2.2.2.2.2.2.1 u.2.2.2.2.2.2.2.1) - (0 : Int64)) - (0 : Int64)), u) := by unfold f_X4_product; rw [if_neg c1, if_pos c2, if_pos c3, if_pos c4]
          exact W.lret (v := (((f_X4_upper u.2.2.2.2.2.2.1 u.2.2.2.2.2.2.2.1) - (0 : Int64)) - (0 : Int64))) hx hb hr (fun t ht hW => ⟨⟨(((f_X4_upper u.2.2.2.2.2.2.1 u.2.2.2.2.2.2.2.1) - (0 : Int64)) - (0 : Int64)), u, rfl, ⟨(congrArg Prod.fst hF).symm, (congrArg Prod.snd hF).symm⟩, by rw [ht]; exact hP, va_K.moved hW.alike hK, hD⟩, hS.F ht⟩) hS.2.2 dX4_product_89
        · have c4 := mt (lg_cmp_ge u.2.2.2.2.2.2.2.1 (0 : Int64)).mpr c4
          refine lv_aload_n hx hb dX4_product_80 rfl (lv_at hl 0 rfl) ?_
          refine va_get (D := (dC, dI)) (ci := 1) (v := .long u.2.2.2.2.2.2.1) (C := RX4) (T := TX4) (N := 13) hx hb hts inX4 hown hK hP 0 rfl rfl 6 (by decide) (hts _ qw_287) (fun _ h9 => h9) rfl dX4_product_81 ?_
          refine lv_goto (tgt := 88) hx hb dX4_product_84 (by decide) ?_
          refine lv_lsub hx hb dX4_product_88 ?_
          have hF : f_X4_product u p0 = ((((f_X4_upper u.2.2.2.2.2.2.1 u.2.2.2.2.2.2.2.1) - (0 : Int64)) - u.2.2.2.2.2.2.1), u) := by unfold f_X4_product; rw [if_neg c1, if_pos c2, if_pos c3, if_neg c4]
          exact W.lret (v := (((f_X4_upper u.2.2.2.2.2.2.1 u.2.2.2.2.2.2.2.1) - (0 : Int64)) - u.2.2.2.2.2.2.1)) hx hb hr (fun t ht hW => ⟨⟨(((f_X4_upper u.2.2.2.2.2.2.1 u.2.2.2.2.2.2.2.1) - (0 : Int64)) - u.2.2.2.2.2.2.1), u, rfl, ⟨(congrArg Prod.fst hF).symm, (congrArg Prod.snd hF).symm⟩, by rw [ht]; exact hP, va_K.moved hW.alike hK, hD⟩, hS.F ht⟩) hS.2.2 dX4_product_89
      · have c3 := mt (lg_cmp_ge u.2.2.2.2.2.2.1 (0 : Int64)).mpr c3
        refine lv_aload_n hx hb dX4_product_62 rfl (lv_at hl 0 rfl) ?_
        refine va_get (D := (dC, dI)) (ci := 1) (v := .long u.2.2.2.2.2.2.2.1) (C := RX4) (T := TX4) (N := 13) hx hb hts inX4 hown hK hP 0 rfl rfl 7 (by decide) (hts _ qw_288) (fun _ h9 => h9) rfl dX4_product_63 ?_
        refine lv_goto (tgt := 70) hx hb dX4_product_66 (by decide) ?_
        refine lv_lsub hx hb dX4_product_70 ?_
        refine lv_aload_n hx hb dX4_product_71 rfl (lv_at hl 0 rfl) ?_
        refine va_get (D := (dC, dI)) (ci := 1) (v := .long u.2.2.2.2.2.2.2.1) (C := RX4) (T := TX4) (N := 13) hx hb hts inX4 hown hK hP 0 rfl rfl 7 (by decide) (hts _ qw_288) (fun _ h9 => h9) rfl dX4_product_72 ?_
        refine lv_lconst (v := (0 : Int64)) hx hb dX4_product_75 (by decide) ?_
        refine W.lcmp hx hb dX4_product_76 ?_
        refine lv_if_ge (tgt := 87) hx hb dX4_product_77 (by decide) (fun c5 => ?_) (fun c5 => ?_)
        · have c5 := (lg_cmp_ge u.2.2.2.2.2.2.2.1 (0 : Int64)).mp c5
          refine lv_lconst (v := (0 : Int64)) hx hb dX4_product_87 (by decide) ?_
          refine lv_lsub hx hb dX4_product_88 ?_
          have hF : f_X4_product u p0 = ((((f_X4_upper u.2.2.2.2.2.2.1 u.2.2.2.2.2.2.2.1) - u.2.2.2.2.2.2.2.1) - (0 : Int64)), u) := by unfold f_X4_product; rw [if_neg c1, if_pos c2, if_neg c3, if_pos c5]
          exact W.lret (v := (((f_X4_upper u.2.2.2.2.2.2.1 u.2.2.2.2.2.2.2.1) - u.2.2.2.2.2.2.2.1) - (0 : Int64))) hx hb hr (fun t ht hW => ⟨⟨(((f_X4_upper u.2.2.2.2.2.2.1 u.2.2.2.2.2.2.2.1) - u.2.2.2.2.2.2.2.1) - (0 : Int64)), u, rfl, ⟨(congrArg Prod.fst hF).symm, (congrArg Prod.snd hF).symm⟩, by rw [ht]; exact hP, va_K.moved hW.alike hK, hD⟩, hS.F ht⟩) hS.2.2 dX4_product_89
        · have c5 := mt (lg_cmp_ge u.2.2.2.2.2.2.2.1 (0 : Int64)).mpr c5
          refine lv_aload_n hx hb dX4_product_80 rfl (lv_at hl 0 rfl) ?_
          refine va_get (D := (dC, dI)) (ci := 1) (v := .long u.2.2.2.2.2.2.1) (C := RX4) (T := TX4) (N := 13) hx hb hts inX4 hown hK hP 0 rfl rfl 6 (by decide) (hts _ qw_287) (fun _ h9 => h9) rfl dX4_product_81 ?_
          refine lv_goto (tgt := 88) hx hb dX4_product_84 (by decide) ?_
          refine lv_lsub hx hb dX4_product_88 ?_
          have hF : f_X4_product u p0 = ((((f_X4_upper u.2.2.2.2.2.2.1 u.2.2.2.2.2.2.2.1) - u.2.2.2.2.2.2.2.1) - u.2.2.2.2.2.2.1), u) := by unfold f_X4_product; rw [if_neg c1, if_pos c2, if_neg c3, if_neg c5]
          exact W.lret (v := (((f_X4_upper u.2.2.2.2.2.2.1 u.2.2.2.2.2.2.2.1) - u.2.2.2.2.2.2.2.1) - u.2.2.2.2.2.2.1)) hx hb hr (fun t ht hW => ⟨⟨(((f_X4_upper u.2.2.2.2.2.2.1 u.2.2.2.2.2.2.2.1) - u.2.2.2.2.2.2.2.1) - u.2.2.2.2.2.2.1), u, rfl, ⟨(congrArg Prod.fst hF).symm, (congrArg Prod.snd hF).symm⟩, by rw [ht]; exact hP, va_K.moved hW.alike hK, hD⟩, hS.F ht⟩) hS.2.2 dX4_product_89
    · by_cases c6 : p0 = (2 : Int32)
      · refine lv_tableIn (tgt := 90) (off := 89) hx hb dX4_product_1 (by rw [c6]; decide) (by rw [c6]; decide) (by rw [c6]; decide +kernel) (by decide) ?_
        refine lv_aload_n hx hb dX4_product_90 rfl (lv_at hl 0 rfl) ?_
        refine va_get (D := (dC, dI)) (ci := 1) (v := .long u.2.2.2.2.2.2.1) (C := RX4) (T := TX4) (N := 13) hx hb hts inX4 hown hK hP 0 rfl rfl 6 (by decide) (hts _ qw_287) (fun _ h9 => h9) rfl dX4_product_91 ?_
        refine lv_aload_n hx hb dX4_product_94 rfl (lv_at hl 0 rfl) ?_
        refine va_get (D := (dC, dI)) (ci := 1) (v := .long u.2.2.2.2.2.2.2.1) (C := RX4) (T := TX4) (N := 13) hx hb hts inX4 hown hK hP 0 rfl rfl 7 (by decide) (hts _ qw_288) (fun _ h9 => h9) rfl dX4_product_95 ?_
        refine W.callV (W.runS (As := [.long u.2.2.2.2.2.2.1, .long u.2.2.2.2.2.2.2.1]) (rest := []) ⟨hx, hb, hml, hown, hts⟩ (mt_X4_upper l u.2.2.2.2.2.2.1 u.2.2.2.2.2.2.2.1) (va_cwS 2 hts gX4_110_X4_upper rfl rfl rfl (by decide +kernel) ⟨Nat.le_of_ble_eq_true rfl, Nat.le_of_ble_eq_true rfl⟩) preEq rfl rfl hl.1 rfl (lv_room (Nat.le_of_ble_eq_true rfl)) dX4_product_98 ⟨Nat.le_of_ble_eq_true rfl, Nat.le_of_ble_eq_true rfl⟩) ?_
        refine W.eq (g2 := F0 m 101 ls [.long (f_X4_upper u.2.2.2.2.2.2.1 u.2.2.2.2.2.2.2.1)]) rfl ?_
        refine lv_aload_n hx hb dX4_product_101 rfl (lv_at hl 0 rfl) ?_
        refine va_get (D := (dC, dI)) (ci := 1) (v := .long u.2.2.2.2.2.2.1) (C := RX4) (T := TX4) (N := 13) hx hb hts inX4 hown hK hP 0 rfl rfl 6 (by decide) (hts _ qw_287) (fun _ h9 => h9) rfl dX4_product_102 ?_
        refine lv_lconst (v := (0 : Int64)) hx hb dX4_product_105 (by decide) ?_
        refine W.lcmp hx hb dX4_product_106 ?_
        refine lv_if_ge (tgt := 117) hx hb dX4_product_107 (by decide) (fun c7 => ?_) (fun c7 => ?_)
        · have c7 := (lg_cmp_ge u.2.2.2.2.2.2.1 (0 : Int64)).mp c7
          refine lv_lconst (v := (0 : Int64)) hx hb dX4_product_117 (by decide) ?_
          refine lv_lsub hx hb dX4_product_118 ?_
          have hF : f_X4_product u p0 = (((f_X4_upper u.2.2.2.2.2.2.1 u.2.2.2.2.2.2.2.1) - (0 : Int64)), u) := by unfold f_X4_product; rw [if_neg c1, if_neg c2, if_pos c6, if_pos c7]
          exact W.lret (v := ((f_X4_upper u.2.2.2.2.2.2.1 u.2.2.2.2.2.2.2.1) - (0 : Int64))) hx hb hr (fun t ht hW => ⟨⟨((f_X4_upper u.2.2.2.2.2.2.1 u.2.2.2.2.2.2.2.1) - (0 : Int64)), u, rfl, ⟨(congrArg Prod.fst hF).symm, (congrArg Prod.snd hF).symm⟩, by rw [ht]; exact hP, va_K.moved hW.alike hK, hD⟩, hS.F ht⟩) hS.2.2 dX4_product_119
        · have c7 := mt (lg_cmp_ge u.2.2.2.2.2.2.1 (0 : Int64)).mpr c7
          refine lv_aload_n hx hb dX4_product_110 rfl (lv_at hl 0 rfl) ?_
          refine va_get (D := (dC, dI)) (ci := 1) (v := .long u.2.2.2.2.2.2.2.1) (C := RX4) (T := TX4) (N := 13) hx hb hts inX4 hown hK hP 0 rfl rfl 7 (by decide) (hts _ qw_288) (fun _ h9 => h9) rfl dX4_product_111 ?_
          refine lv_goto (tgt := 118) hx hb dX4_product_114 (by decide) ?_
          refine lv_lsub hx hb dX4_product_118 ?_
          have hF : f_X4_product u p0 = (((f_X4_upper u.2.2.2.2.2.2.1 u.2.2.2.2.2.2.2.1) - u.2.2.2.2.2.2.2.1), u) := by unfold f_X4_product; rw [if_neg c1, if_neg c2, if_pos c6, if_neg c7]
          exact W.lret (v := ((f_X4_upper u.2.2.2.2.2.2.1 u.2.2.2.2.2.2.2.1) - u.2.2.2.2.2.2.2.1)) hx hb hr (fun t ht hW => ⟨⟨((f_X4_upper u.2.2.2.2.2.2.1 u.2.2.2.2.2.2.2.1) - u.2.2.2.2.2.2.2.1), u, rfl, ⟨(congrArg Prod.fst hF).symm, (congrArg Prod.snd hF).symm⟩, by rw [ht]; exact hP, va_K.moved hW.alike hK, hD⟩, hS.F ht⟩) hS.2.2 dX4_product_119
      · by_cases c8 : p0 = (3 : Int32)
        · refine lv_tableIn (tgt := 120) (off := 119) hx hb dX4_product_1 (by rw [c8]; decide) (by rw [c8]; decide) (by rw [c8]; decide +kernel) (by decide) ?_
          refine lv_aload_n hx hb dX4_product_120 rfl (lv_at hl 0 rfl) ?_
          refine va_get (D := (dC, dI)) (ci := 1) (v := .long u.2.2.2.2.2.2.1) (C := RX4) (T := TX4) (N := 13) hx hb hts inX4 hown hK hP 0 rfl rfl 6 (by decide) (hts _ qw_287) (fun _ h9 => h9) rfl dX4_product_121 ?_
          refine lv_aload_n hx hb dX4_product_124 rfl (lv_at hl 0 rfl) ?_
          refine va_get (D := (dC, dI)) (ci := 1) (v := .long u.2.2.2.2.2.2.2.1) (C := RX4) (T := TX4) (N := 13) hx hb hts inX4 hown hK hP 0 rfl rfl 7 (by decide) (hts _ qw_288) (fun _ h9 => h9) rfl dX4_product_125 ?_
          refine W.callV (W.runS (As := [.long u.2.2.2.2.2.2.1, .long u.2.2.2.2.2.2.2.1]) (rest := []) ⟨hx, hb, hml, hown, hts⟩ (mt_X4_upper l u.2.2.2.2.2.2.1 u.2.2.2.2.2.2.2.1) (va_cwS 2 hts gX4_110_X4_upper rfl rfl rfl (by decide +kernel) ⟨Nat.le_of_ble_eq_true rfl, Nat.le_of_ble_eq_true rfl⟩) preEq rfl rfl hl.1 rfl (lv_room (Nat.le_of_ble_eq_true rfl)) dX4_product_128 ⟨Nat.le_of_ble_eq_true rfl, Nat.le_of_ble_eq_true rfl⟩) ?_
          refine W.eq (g2 := F0 m 131 ls [.long (f_X4_upper u.2.2.2.2.2.2.1 u.2.2.2.2.2.2.2.1)]) rfl ?_
          have hF : f_X4_product u p0 = ((f_X4_upper u.2.2.2.2.2.2.1 u.2.2.2.2.2.2.2.1), u) := by unfold f_X4_product; rw [if_neg c1, if_neg c2, if_neg c6, if_pos c8]
          exact W.lret (v := (f_X4_upper u.2.2.2.2.2.2.1 u.2.2.2.2.2.2.2.1)) hx hb hr (fun t ht hW => ⟨⟨(f_X4_upper u.2.2.2.2.2.2.1 u.2.2.2.2.2.2.2.1), u, rfl, ⟨(congrArg Prod.fst hF).symm, (congrArg Prod.snd hF).symm⟩, by rw [ht]; exact hP, va_K.moved hW.alike hK, hD⟩, hS.F ht⟩) hS.2.2 dX4_product_131
        · refine lv_tableOut (tgt := 132) hx hb dX4_product_1 (by have q0 := lv_neT (k := (0 : Int32)) (a := 0) c1 (by decide); have q1 := lv_neT (k := (1 : Int32)) (a := 1) c2 (by decide); have q2 := lv_neT (k := (2 : Int32)) (a := 2) c6 (by decide); have q3 := lv_neT (k := (3 : Int32)) (a := 3) c8 (by decide); omega) (by decide) ?_
          refine lv_aload_n hx hb dX4_product_132 rfl (lv_at hl 0 rfl) ?_
          refine lv_aload_n hx hb dX4_product_133 rfl (lv_at hl 0 rfl) ?_
          refine va_get (D := (dC, dI)) (ci := 1) (v := .long u.2.2.2.2.2.2.1) (C := RX4) (T := TX4) (N := 13) hx hb hts inX4 hown hK hP 0 rfl rfl 6 (by decide) (hts _ qw_287) (fun _ h9 => h9) rfl dX4_product_134 ?_
          refine lv_aload_n hx hb dX4_product_137 rfl (lv_at hl 0 rfl) ?_
          refine va_get (D := (dC, dI)) (ci := 1) (v := .long u.2.2.2.2.2.2.2.1) (C := RX4) (T := TX4) (N := 13) hx hb hts inX4 hown hK hP 0 rfl rfl 7 (by decide) (hts _ qw_288) (fun _ h9 => h9) rfl dX4_product_138 ?_
          refine lv_iload_n hx hb dX4_product_141 rfl (lv_at hl 1 rfl) ?_
          refine lv_iconst (v := (4 : Int32)) hx hb dX4_product_142 (by decide) ?_
          refine lv_icmp_eq (tgt := 152) hx hb dX4_product_143 (by decide) (fun c9 => ?_) (fun c9 => ?_)
          · refine lv_iconst (v := (1 : Int32)) hx hb dX4_product_152 (by decide) ?_
            refine lv_goto (tgt := 157) hx hb dX4_product_153 (by decide) ?_
            refine wr_callv (wr := []) (va_runV (As := [.long u.2.2.2.2.2.2.1, .long u.2.2.2.2.2.2.2.1, .int (1 : Int32)]) (rest := []) ⟨hx, hb, hml, hown, hts⟩ (mt_X4_divideAll l dC dI g0 g1 g2 cB cC s.heap.size u u.2.2.2.2.2.2.1 u.2.2.2.2.2.2.2.1 (1 : Int32)) (cwV 3 hts gX4_114_X4_divideAll rfl rfl rfl (by decide +kernel) ⟨Nat.le_of_ble_eq_true rfl, Nat.le_of_ble_eq_true rfl⟩) (wr_V hK hP hD (ci := 1) (q0 := 0) rfl rfl rfl) rfl rfl hl.1 rfl (lv_room (Nat.le_of_ble_eq_true rfl)) dX4_product_157 ⟨Nat.le_of_ble_eq_true rfl, Nat.le_of_ble_eq_true rfl⟩) hS hP hD hA [0, 1, 2] [] rfl rfl (by decide) (by decide) (fun v_ H locs hw hP hD hS => ?_)
            subst hw
            refine W.eq (g2 := F0 m 160 ls []) rfl ?_
            have hP : va_P (dC, dI) vwCl (Wm g0 g1 g2 cB cC (f_X4_divideAll u u.2.2.2.2.2.2.1 u.2.2.2.2.2.2.2.1 (1 : Int32))) H := hP
            have hD : va_D A (Wm g0 g1 g2 cB cC (f_X4_divideAll u u.2.2.2.2.2.2.1 u.2.2.2.2.2.2.2.1 (1 : Int32))) := hD
            refine lv_iload_n hx hb dX4_product_160 rfl (lv_at hl 1 rfl) ?_
            refine lv_bipush (v := (6 : Int32)) hx hb dX4_product_161 (by decide) ?_
            refine lv_icmp_ge (tgt := 173) hx hb dX4_product_163 (by decide) (fun c10 => ?_) (fun c10 => ?_)
            · refine lv_aload_n hx hb dX4_product_173 rfl (lv_at hl 0 rfl) ?_
              refine va_get (D := (dC, dI)) (ci := 1) (v := .long (f_X4_divideAll u u.2.2.2.2.2.2.1 u.2.2.2.2.2.2.2.1 (1 : Int32)).2.2.2.2.2.2.2.2.2.2.2.2) (C := RX4) (T := TX4) (N := 13) hx hb hts inX4 hown hK hP 0 rfl rfl 12 (by decide) (hts _ qw_256) (fun _ h9 => h9) rfl dX4_product_174 ?_
              have hF : f_X4_product u p0 = ((f_X4_divideAll u u.2.2.2.2.2.2.1 u.2.2.2.2.2.2.2.1 (1 : Int32)).2.2.2.2.2.2.2.2.2.2.2.2, (f_X4_divideAll u u.2.2.2.2.2.2.1 u.2.2.2.2.2.2.2.1 (1 : Int32))) := by unfold f_X4_product; rw [if_neg c1, if_neg c2, if_neg c6, if_neg c8, if_pos c9, if_pos c10]
              exact W.lret (v := (f_X4_divideAll u u.2.2.2.2.2.2.1 u.2.2.2.2.2.2.2.1 (1 : Int32)).2.2.2.2.2.2.2.2.2.2.2.2) hx hb hr (fun t ht hW => ⟨⟨(f_X4_divideAll u u.2.2.2.2.2.2.1 u.2.2.2.2.2.2.2.1 (1 : Int32)).2.2.2.2.2.2.2.2.2.2.2.2, (f_X4_divideAll u u.2.2.2.2.2.2.1 u.2.2.2.2.2.2.2.1 (1 : Int32)), rfl, ⟨(congrArg Prod.fst hF).symm, (congrArg Prod.snd hF).symm⟩, by rw [ht]; exact hP, va_K.moved hW.alike hK, hD⟩, hS.F ht⟩) hS.2.2 dX4_product_177
            · refine lv_aload_n hx hb dX4_product_166 rfl (lv_at hl 0 rfl) ?_
              refine va_get (D := (dC, dI)) (ci := 1) (v := .long (f_X4_divideAll u u.2.2.2.2.2.2.1 u.2.2.2.2.2.2.2.1 (1 : Int32)).2.2.2.2.2.2.2.2.2.2.2.1) (C := RX4) (T := TX4) (N := 13) hx hb hts inX4 hown hK hP 0 rfl rfl 11 (by decide) (hts _ qw_257) (fun _ h9 => h9) rfl dX4_product_167 ?_
              refine lv_goto (tgt := 177) hx hb dX4_product_170 (by decide) ?_
              have hF : f_X4_product u p0 = ((f_X4_divideAll u u.2.2.2.2.2.2.1 u.2.2.2.2.2.2.2.1 (1 : Int32)).2.2.2.2.2.2.2.2.2.2.2.1, (f_X4_divideAll u u.2.2.2.2.2.2.1 u.2.2.2.2.2.2.2.1 (1 : Int32))) := by unfold f_X4_product; rw [if_neg c1, if_neg c2, if_neg c6, if_neg c8, if_pos c9, if_neg c10]
              exact W.lret (v := (f_X4_divideAll u u.2.2.2.2.2.2.1 u.2.2.2.2.2.2.2.1 (1 : Int32)).2.2.2.2.2.2.2.2.2.2.2.1) hx hb hr (fun t ht hW => ⟨⟨(f_X4_divideAll u u.2.2.2.2.2.2.1 u.2.2.2.2.2.2.2.1 (1 : Int32)).2.2.2.2.2.2.2.2.2.2.2.1, (f_X4_divideAll u u.2.2.2.2.2.2.1 u.2.2.2.2.2.2.2.1 (1 : Int32)), rfl, ⟨(congrArg Prod.fst hF).symm, (congrArg Prod.snd hF).symm⟩, by rw [ht]; exact hP, va_K.moved hW.alike hK, hD⟩, hS.F ht⟩) hS.2.2 dX4_product_177
          · refine lv_iload_n hx hb dX4_product_146 rfl (lv_at hl 1 rfl) ?_
            refine lv_bipush (v := (6 : Int32)) hx hb dX4_product_147 (by decide) ?_
            refine lv_icmp_ne (tgt := 156) hx hb dX4_product_149 (by decide) (fun c11 => ?_) (fun c11 => ?_)
            · refine lv_iconst (v := (0 : Int32)) hx hb dX4_product_156 (by decide) ?_
              refine wr_callv (wr := []) (va_runV (As := [.long u.2.2.2.2.2.2.1, .long u.2.2.2.2.2.2.2.1, .int (0 : Int32)]) (rest := []) ⟨hx, hb, hml, hown, hts⟩ (mt_X4_divideAll l dC dI g0 g1 g2 cB cC s.heap.size u u.2.2.2.2.2.2.1 u.2.2.2.2.2.2.2.1 (0 : Int32)) (cwV 3 hts gX4_114_X4_divideAll rfl rfl rfl (by decide +kernel) ⟨Nat.le_of_ble_eq_true rfl, Nat.le_of_ble_eq_true rfl⟩) (wr_V hK hP hD (ci := 1) (q0 := 0) rfl rfl rfl) rfl rfl hl.1 rfl (lv_room (Nat.le_of_ble_eq_true rfl)) dX4_product_157 ⟨Nat.le_of_ble_eq_true rfl, Nat.le_of_ble_eq_true rfl⟩) hS hP hD hA [0, 1, 2] [] rfl rfl (by decide) (by decide) (fun v_ H locs hw hP hD hS => ?_)
              subst hw
              refine W.eq (g2 := F0 m 160 ls []) rfl ?_
              have hP : va_P (dC, dI) vwCl (Wm g0 g1 g2 cB cC (f_X4_divideAll u u.2.2.2.2.2.2.1 u.2.2.2.2.2.2.2.1 (0 : Int32))) H := hP
              have hD : va_D A (Wm g0 g1 g2 cB cC (f_X4_divideAll u u.2.2.2.2.2.2.1 u.2.2.2.2.2.2.2.1 (0 : Int32))) := hD
              refine lv_iload_n hx hb dX4_product_160 rfl (lv_at hl 1 rfl) ?_
              refine lv_bipush (v := (6 : Int32)) hx hb dX4_product_161 (by decide) ?_
              refine lv_icmp_ge (tgt := 173) hx hb dX4_product_163 (by decide) (fun c12 => ?_) (fun c12 => ?_)
              · refine lv_aload_n hx hb dX4_product_173 rfl (lv_at hl 0 rfl) ?_
                refine va_get (D := (dC, dI)) (ci := 1) (v := .long (f_X4_divideAll u u.2.2.2.2.2.2.1 u.2.2.2.2.2.2.2.1 (0 : Int32)).2.2.2.2.2.2.2.2.2.2.2.2) (C := RX4) (T := TX4) (N := 13) hx hb hts inX4 hown hK hP 0 rfl rfl 12 (by decide) (hts _ qw_256) (fun _ h9 => h9) rfl dX4_product_174 ?_
                have hF : f_X4_product u p0 = ((f_X4_divideAll u u.2.2.2.2.2.2.1 u.2.2.2.2.2.2.2.1 (0 : Int32)).2.2.2.2.2.2.2.2.2.2.2.2, (f_X4_divideAll u u.2.2.2.2.2.2.1 u.2.2.2.2.2.2.2.1 (0 : Int32))) := by unfold f_X4_product; rw [if_neg c1, if_neg c2, if_neg c6, if_neg c8, if_neg c9, if_neg c11, if_pos c12]
                exact W.lret (v := (f_X4_divideAll u u.2.2.2.2.2.2.1 u.2.2.2.2.2.2.2.1 (0 : Int32)).2.2.2.2.2.2.2.2.2.2.2.2) hx hb hr (fun t ht hW => ⟨⟨(f_X4_divideAll u u.2.2.2.2.2.2.1 u.2.2.2.2.2.2.2.1 (0 : Int32)).2.2.2.2.2.2.2.2.2.2.2.2, (f_X4_divideAll u u.2.2.2.2.2.2.1 u.2.2.2.2.2.2.2.1 (0 : Int32)), rfl, ⟨(congrArg Prod.fst hF).symm, (congrArg Prod.snd hF).symm⟩, by rw [ht]; exact hP, va_K.moved hW.alike hK, hD⟩, hS.F ht⟩) hS.2.2 dX4_product_177
              · refine lv_aload_n hx hb dX4_product_166 rfl (lv_at hl 0 rfl) ?_
                refine va_get (D := (dC, dI)) (ci := 1) (v := .long (f_X4_divideAll u u.2.2.2.2.2.2.1 u.2.2.2.2.2.2.2.1 (0 : Int32)).2.2.2.2.2.2.2.2.2.2.2.1) (C := RX4) (T := TX4) (N := 13) hx hb hts inX4 hown hK hP 0 rfl rfl 11 (by decide) (hts _ qw_257) (fun _ h9 => h9) rfl dX4_product_167 ?_
                refine lv_goto (tgt := 177) hx hb dX4_product_170 (by decide) ?_
                have hF : f_X4_product u p0 = ((f_X4_divideAll u u.2.2.2.2.2.2.1 u.2.2.2.2.2.2.2.1 (0 : Int32)).2.2.2.2.2.2.2.2.2.2.2.1, (f_X4_divideAll u u.2.2.2.2.2.2.1 u.2.2.2.2.2.2.2.1 (0 : Int32))) := by unfold f_X4_product; rw [if_neg c1, if_neg c2, if_neg c6, if_neg c8, if_neg c9, if_neg c11, if_neg c12]
                exact W.lret (v := (f_X4_divideAll u u.2.2.2.2.2.2.1 u.2.2.2.2.2.2.2.1 (0 : Int32)).2.2.2.2.2.2.2.2.2.2.2.1) hx hb hr (fun t ht hW => ⟨⟨(f_X4_divideAll u u.2.2.2.2.2.2.1 u.2.2.2.2.2.2.2.1 (0 : Int32)).2.2.2.2.2.2.2.2.2.2.2.1, (f_X4_divideAll u u.2.2.2.2.2.2.1 u.2.2.2.2.2.2.2.1 (0 : Int32)), rfl, ⟨(congrArg Prod.fst hF).symm, (congrArg Prod.snd hF).symm⟩, by rw [ht]; exact hP, va_K.moved hW.alike hK, hD⟩, hS.F ht⟩) hS.2.2 dX4_product_177
            · refine lv_iconst (v := (1 : Int32)) hx hb dX4_product_152 (by decide) ?_
              refine lv_goto (tgt := 157) hx hb dX4_product_153 (by decide) ?_
              refine wr_callv (wr := []) (va_runV (As := [.long u.2.2.2.2.2.2.1, .long u.2.2.2.2.2.2.2.1, .int (1 : Int32)]) (rest := []) ⟨hx, hb, hml, hown, hts⟩ (mt_X4_divideAll l dC dI g0 g1 g2 cB cC s.heap.size u u.2.2.2.2.2.2.1 u.2.2.2.2.2.2.2.1 (1 : Int32)) (cwV 3 hts gX4_114_X4_divideAll rfl rfl rfl (by decide +kernel) ⟨Nat.le_of_ble_eq_true rfl, Nat.le_of_ble_eq_true rfl⟩) (wr_V hK hP hD (ci := 1) (q0 := 0) rfl rfl rfl) rfl rfl hl.1 rfl (lv_room (Nat.le_of_ble_eq_true rfl)) dX4_product_157 ⟨Nat.le_of_ble_eq_true rfl, Nat.le_of_ble_eq_true rfl⟩) hS hP hD hA [0, 1, 2] [] rfl rfl (by decide) (by decide) (fun v_ H locs hw hP hD hS => ?_)
              subst hw
              refine W.eq (g2 := F0 m 160 ls []) rfl ?_
              have hP : va_P (dC, dI) vwCl (Wm g0 g1 g2 cB cC (f_X4_divideAll u u.2.2.2.2.2.2.1 u.2.2.2.2.2.2.2.1 (1 : Int32))) H := hP
              have hD : va_D A (Wm g0 g1 g2 cB cC (f_X4_divideAll u u.2.2.2.2.2.2.1 u.2.2.2.2.2.2.2.1 (1 : Int32))) := hD
              refine lv_iload_n hx hb dX4_product_160 rfl (lv_at hl 1 rfl) ?_
              refine lv_bipush (v := (6 : Int32)) hx hb dX4_product_161 (by decide) ?_
              refine lv_icmp_ge (tgt := 173) hx hb dX4_product_163 (by decide) (fun c13 => ?_) (fun c13 => ?_)
              · refine lv_aload_n hx hb dX4_product_173 rfl (lv_at hl 0 rfl) ?_
                refine va_get (D := (dC, dI)) (ci := 1) (v := .long (f_X4_divideAll u u.2.2.2.2.2.2.1 u.2.2.2.2.2.2.2.1 (1 : Int32)).2.2.2.2.2.2.2.2.2.2.2.2) (C := RX4) (T := TX4) (N := 13) hx hb hts inX4 hown hK hP 0 rfl rfl 12 (by decide) (hts _ qw_256) (fun _ h9 => h9) rfl dX4_product_174 ?_
                have hF : f_X4_product u p0 = ((f_X4_divideAll u u.2.2.2.2.2.2.1 u.2.2.2.2.2.2.2.1 (1 : Int32)).2.2.2.2.2.2.2.2.2.2.2.2, (f_X4_divideAll u u.2.2.2.2.2.2.1 u.2.2.2.2.2.2.2.1 (1 : Int32))) := by unfold f_X4_product; rw [if_neg c1, if_neg c2, if_neg c6, if_neg c8, if_neg c9, if_pos c11, if_pos c13]
                exact W.lret (v := (f_X4_divideAll u u.2.2.2.2.2.2.1 u.2.2.2.2.2.2.2.1 (1 : Int32)).2.2.2.2.2.2.2.2.2.2.2.2) hx hb hr (fun t ht hW => ⟨⟨(f_X4_divideAll u u.2.2.2.2.2.2.1 u.2.2.2.2.2.2.2.1 (1 : Int32)).2.2.2.2.2.2.2.2.2.2.2.2, (f_X4_divideAll u u.2.2.2.2.2.2.1 u.2.2.2.2.2.2.2.1 (1 : Int32)), rfl, ⟨(congrArg Prod.fst hF).symm, (congrArg Prod.snd hF).symm⟩, by rw [ht]; exact hP, va_K.moved hW.alike hK, hD⟩, hS.F ht⟩) hS.2.2 dX4_product_177
              · refine lv_aload_n hx hb dX4_product_166 rfl (lv_at hl 0 rfl) ?_
                refine va_get (D := (dC, dI)) (ci := 1) (v := .long (f_X4_divideAll u u.2.2.2.2.2.2.1 u.2.2.2.2.2.2.2.1 (1 : Int32)).2.2.2.2.2.2.2.2.2.2.2.1) (C := RX4) (T := TX4) (N := 13) hx hb hts inX4 hown hK hP 0 rfl rfl 11 (by decide) (hts _ qw_257) (fun _ h9 => h9) rfl dX4_product_167 ?_
                refine lv_goto (tgt := 177) hx hb dX4_product_170 (by decide) ?_
                have hF : f_X4_product u p0 = ((f_X4_divideAll u u.2.2.2.2.2.2.1 u.2.2.2.2.2.2.2.1 (1 : Int32)).2.2.2.2.2.2.2.2.2.2.2.1, (f_X4_divideAll u u.2.2.2.2.2.2.1 u.2.2.2.2.2.2.2.1 (1 : Int32))) := by unfold f_X4_product; rw [if_neg c1, if_neg c2, if_neg c6, if_neg c8, if_neg c9, if_pos c11, if_neg c13]
                exact W.lret (v := (f_X4_divideAll u u.2.2.2.2.2.2.1 u.2.2.2.2.2.2.2.1 (1 : Int32)).2.2.2.2.2.2.2.2.2.2.2.1) hx hb hr (fun t ht hW => ⟨⟨(f_X4_divideAll u u.2.2.2.2.2.2.1 u.2.2.2.2.2.2.2.1 (1 : Int32)).2.2.2.2.2.2.2.2.2.2.2.1, (f_X4_divideAll u u.2.2.2.2.2.2.1 u.2.2.2.2.2.2.2.1 (1 : Int32)), rfl, ⟨(congrArg Prod.fst hF).symm, (congrArg Prod.snd hF).symm⟩, by rw [ht]; exact hP, va_K.moved hW.alike hK, hD⟩, hS.F ht⟩) hS.2.2 dX4_product_177
