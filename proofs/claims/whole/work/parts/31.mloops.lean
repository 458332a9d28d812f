theorem kk_lt (lo : Nat) (h : lo < 2 ^ 31) : nI (lo + 0) + (-1) < nI lo := by
  cases lo with
  | zero => decide
  | succ n => rw [show n + 1 + 0 = n + 1 from rfl, pk_m1]; exact nI_lt (by omega) h
def st_X4_bits (u : SmT) (p0 : Int32) (p1 : Int32) (k : Int32) (a : Int32) : Int32 :=
  (((2 : Int32) * a) + ((u.2.2.2.2.1 >>> (k &&& 31)) &&& (1 : Int32)))
def it_X4_bits (u : SmT) (p0 : Int32) (p1 : Int32) : Nat → Int32 → Int32 → Int32
  | 0, _, a => a
  | n + 1, k, a => it_X4_bits u p0 p1 n (k + (-1 : Int32)) (st_X4_bits u p0 p1 k a)
set_option maxHeartbeats 4000000 in
set_option maxRecDepth 100000 in
theorem lp_X4_bits {p : Program} {l : Launch} {e : Env} {s : State} {m : MethodId} {args : Array Value} {below : List Frame} {meth : Method} {c : Code} {Q : State → Prop} (hx : p.tables.exec = Jvm.exec) (hb : c.code = cX4_bits) (hml : c.maxLocals = 5) (hown : s.vm.findClass RX4 = some m.cls) (hts : ∀ w ∈ lw_G, w.before args s = true) {H : Heap} {locs : List Loc} (dC : Nat → ClassId) (dI : Nat → Nat → Nat) (g0 g1 g2 : Nat) (cB cC : ClassId) (u : SmT) (hK : va_K (dC, dI) vwCl [(cB, .long), (cC, .long)] s) (hP : va_P (dC, dI) vwCl (Wm g0 g1 g2 cB cC u) H) (p0 : Int32) (p1 : Int32) (lo : Nat) (h1 : p1 = nI lo) (h2 : lo < 64) (F : Int32) (K : ∀ (k : Int32) (ls : Array Slot), lv_has ls 5 [(4, .int k), (3, .int F), (0, .ref g0), (1, .int p0), (2, .int p1)] → W p l e (headSpec wsX4_bits ({ frames := 0, cells := 0, slots := 0, locals := 0 })).room s m args below meth c H locs 0 0 Q (F0 m 31 ls [])) : ∀ (n : Nat), n < 2 ^ 30 → ∀ (k : Int32) (a : Int32) (ls : Array Slot), k = nI (lo + n) + (-1) → it_X4_bits u p0 p1 n k a = F → lv_has ls 5 [(4, .int k), (3, .int a), (0, .ref g0), (1, .int p0), (2, .int p1)] → W p l e (headSpec wsX4_bits ({ frames := 0, cells := 0, slots := 0, locals := 0 })).room s m args below meth c H locs 0 0 Q (F0 m 5 ls []) := by
  intro n
  induction n with
  | zero =>
    intro hn k a ls hk hF hl
    have hF : a = F := hF
    subst hF
    refine lv_iload hx hb dX4_bits_5 (lv_at hl 0 rfl) ?_
    refine lv_iload_n hx hb dX4_bits_7 rfl (lv_at hl 4 rfl) ?_
    refine lv_icmp_lt (tgt := 31) hx hb dX4_bits_8 (by decide) (fun _ => ?_) (fun c_ => absurd (by rw [hk, h1]; exact kk_lt lo (by omega)) c_)
    exact K k ls hl
  | succ n ih =>
    intro hn k a ls hk hF hl
    have hk2 : k = nI (lo + n) := hk.trans (pk_m1 (lo + n))
    refine lv_iload hx hb dX4_bits_5 (lv_at hl 0 rfl) ?_
    refine lv_iload_n hx hb dX4_bits_7 rfl (lv_at hl 4 rfl) ?_
    refine lv_icmp_lt (tgt := 31) hx hb dX4_bits_8 (by decide) (fun c_ => absurd c_ (by rw [hk2, h1]; exact nI_nlt (by omega) (by omega))) (fun _ => ?_)
    refine lv_iconst (v := (2 : Int32)) hx hb dX4_bits_11 (by decide) ?_
    refine lv_iload_n hx hb dX4_bits_12 rfl (lv_at hl 1 rfl) ?_
    refine lv_imul hx hb dX4_bits_13 ?_
    refine lv_aload_n hx hb dX4_bits_14 rfl (lv_at hl 2 rfl) ?_
    refine va_get (D := (dC, dI)) (ci := 1) (v := .int u.2.2.2.2.1) (C := RX4) (T := TX4) (N := 13) hx hb hts inX4 hown hK hP 0 rfl rfl 4 (by decide) (hts _ qw_245) (fun _ h9 => h9) rfl dX4_bits_15 ?_
    refine lv_iload hx hb dX4_bits_18 (lv_at hl 0 rfl) ?_
    refine lv_ishr hx hb dX4_bits_20 ?_
    refine lv_iconst (v := (1 : Int32)) hx hb dX4_bits_21 (by decide) ?_
    refine lv_iand hx hb dX4_bits_22 ?_
    refine lv_iadd hx hb dX4_bits_23 ?_
    refine lv_istore_n (lv' := [(3, .int (((2 : Int32) * a) + ((u.2.2.2.2.1 >>> (k &&& 31)) &&& (1 : Int32)))), (4, .int k), (0, .ref g0), (1, .int p0), (2, .int p1)]) hx hb dX4_bits_24 rfl hl (by decide) rfl (fun ls hl => ?_)
    refine lv_iinc (v := (k + (-1 : Int32))) (lv' := [(4, .int (k + (-1 : Int32))), (3, .int (((2 : Int32) * a) + ((u.2.2.2.2.1 >>> (k &&& 31)) &&& (1 : Int32)))), (0, .ref g0), (1, .int p0), (2, .int p1)]) hx hb dX4_bits_25 hl (k := 1) rfl rfl (by decide) rfl (fun ls hl => ?_)
    refine lv_goto (tgt := 5) hx hb dX4_bits_28 (by decide) ?_
    have hs : st_X4_bits u p0 p1 k a = (((2 : Int32) * a) + ((u.2.2.2.2.1 >>> (k &&& 31)) &&& (1 : Int32))) := rfl
    exact ih (by omega) _ (((2 : Int32) * a) + ((u.2.2.2.2.1 >>> (k &&& 31)) &&& (1 : Int32))) ls (by rw [hk2]) (by rw [← hs]; exact hF) (lv_sub hl [0, 1, 2, 3, 4] rfl)
theorem gx_X4_bits (u : SmT) (p0 : Int32) (p1 : Int32) : ∃ v : Int32, v = it_X4_bits u p0 p1 ((p0.toInt - p1.toInt + 1).toNat) p0 (0 : Int32) := ⟨_, rfl⟩
noncomputable def gi_X4_bits (u : SmT) (p0 : Int32) (p1 : Int32) : Int32 := Classical.choose (gx_X4_bits u p0 p1)
theorem gs_X4_bits (u : SmT) (p0 : Int32) (p1 : Int32) : gi_X4_bits u p0 p1 = it_X4_bits u p0 p1 ((p0.toInt - p1.toInt + 1).toNat) p0 (0 : Int32) := Classical.choose_spec (gx_X4_bits u p0 p1)
theorem ge_X4_bits (u : SmT) (p0 : Int32) (p1 : Int32) (lo n0 : Nat) (h0 : p0 = nI (lo + n0) + (-1)) (h1 : p1 = nI lo) (h2 : lo < 64) (h3 : n0 < 2 ^ 30) (h4 : (p0.toInt - p1.toInt + 1).toNat = n0) : (it_X4_bits u p0 p1 n0 p0 (0 : Int32)) = gi_X4_bits u p0 p1 := by rw [gs_X4_bits]; rw [h4]
noncomputable def f_X4_bits (u : SmT) (p0 : Int32) (p1 : Int32) : Int32 := (gi_X4_bits u p0 p1)
set_option maxHeartbeats 4000000 in
set_option maxRecDepth 100000 in
theorem mt_X4_bits (l : Launch) (dC : Nat → ClassId) (dI : Nat → Nat → Nat) (g0 g1 g2 : Nat) (cB cC : ClassId) (u : SmT) (p0 : Int32) (p1 : Int32) (lo n0 : Nat) (h0 : p0 = nI (lo + n0) + (-1)) (h1 : p1 = nI lo) (h2 : lo < 64) (h3 : n0 < 2 ^ 30) (h4 : (p0.toInt - p1.toInt + 1).toNat = n0) : Met l yX4_bits wsX4_bits ({ frames := 0, cells := 0, slots := 0, locals := 0 }) (rd_P [.ref g0, .int p0, .int p1] (dC, dI) vwCl (Wm g0 g1 g2 cB cC u) [(cB, .long), (cC, .long)]) (k2_QcV (.int (f_X4_bits u p0 p1))) 0 0 (fun _ => False) := by
  refine Met.ofW (cc := cX4_bits) (maxL := 5) (ret := (some .int)) (by decide) rfl ?_
  intro p e s m args below meth c s₁ B hml hv
  obtain ⟨rfl, hP, hK⟩ := hv
  have hx := B.exec
  have hb := B.bytes
  have hr := B.returns
  have hts0 := atoms_spec (ws := wsX4_bits) B.pre
  have hts := fun (w : Cond) (h : w ∈ lw_G) => hts0 w (List.mem_cons_of_mem _ h)
  have hown : s.vm.findClass RX4 = some m.cls := findClass_of_methodNamed B.named
  have hlocks := B.notSynchronized
  have hl := lv_entry ([.ref g0, .int p0, .int p1]) (n := 5) (Nat.le_of_ble_eq_true rfl)
  rw [lg_entry_eq]
  generalize (lg_sl ([.ref g0, .int p0, .int p1]) ++ List.replicate (5 - (lg_sl ([.ref g0, .int p0, .int p1])).length) Slot.unset).toArray = ls at hl ⊢
  have hl : lv_has ls 5 [(0, .ref g0), (1, .int p0), (2, .int p1)] := hl
  refine lv_iconst (v := (0 : Int32)) hx hb dX4_bits_0 (by decide) ?_
  refine lv_istore_n (lv' := [(3, .int (0 : Int32)), (0, .ref g0), (1, .int p0), (2, .int p1)]) hx hb dX4_bits_1 rfl hl (by decide) rfl (fun ls hl => ?_)
  refine lv_iload_n hx hb dX4_bits_2 rfl (lv_at hl 2 rfl) ?_
  refine lv_istore (lv' := [(4, .int p0), (3, .int (0 : Int32)), (0, .ref g0), (1, .int p0), (2, .int p1)]) hx hb dX4_bits_3 hl (by decide) rfl (fun ls hl => ?_)
  refine lp_X4_bits hx hb hml hown hts dC dI g0 g1 g2 cB cC u hK hP p0 p1 lo h1 h2 (gi_X4_bits u p0 p1) (fun k ls hl => ?_) n0 h3 _ (0 : Int32) ls h0 (ge_X4_bits u p0 p1 lo n0 h0 h1 h2 h3 h4) (lv_sub hl [0, 1, 2, 3, 4] rfl)
  refine lv_iload_n hx hb dX4_bits_31 rfl (lv_at hl 1 rfl) ?_
  exact W.iret (v := gi_X4_bits u p0 p1) hx hb hr (fun t ht hW => ⟨rfl, ht⟩) (fun _ h => by cases h) dX4_bits_32
def st_X4_upper (p0 : Int64) (p1 : Int64) (k : Int32) (a : Int64 × Int64) : Int64 × Int64 :=
  if (0 : Int64) ≤ a.2 then
    if ((j_lshr p1 k) &&& (1 : Int64)) = (1 : Int64) then
      if (f_X4_isLess (((2 : Int64) * a.2) + p0) ((2 : Int64) * a.2)) = 0 then
        ((((2 : Int64) * a.1) + (0 : Int64)), (((2 : Int64) * a.2) + p0))
      else
        (((((2 : Int64) * a.1) + (0 : Int64)) + (1 : Int64)), (((2 : Int64) * a.2) + p0))
    else
      ((((2 : Int64) * a.1) + (0 : Int64)), ((2 : Int64) * a.2))
  else if ((j_lshr p1 k) &&& (1 : Int64)) = (1 : Int64) then
    if (f_X4_isLess (((2 : Int64) * a.2) + p0) ((2 : Int64) * a.2)) = 0 then
      ((((2 : Int64) * a.1) + (1 : Int64)), (((2 : Int64) * a.2) + p0))
    else
      (((((2 : Int64) * a.1) + (1 : Int64)) + (1 : Int64)), (((2 : Int64) * a.2) + p0))
  else
    ((((2 : Int64) * a.1) + (1 : Int64)), ((2 : Int64) * a.2))
def it_X4_upper (p0 : Int64) (p1 : Int64) : Nat → Int32 → Int64 × Int64 → Int64 × Int64
  | 0, _, a => a
  | n + 1, k, a => it_X4_upper p0 p1 n (k + (-1 : Int32)) (st_X4_upper p0 p1 k a)
set_option maxHeartbeats 4000000 in
set_option maxRecDepth 100000 in
theorem lp_X4_upper {p : Program} {l : Launch} {e : Env} {s : State} {m : MethodId} {args : Array Value} {below : List Frame} {meth : Method} {c : Code} {Q : State → Prop} (hx : p.tables.exec = Jvm.exec) (hb : c.code = cX4_upper) (hml : c.maxLocals = 11) (hown : s.vm.findClass RX4 = some m.cls) (hts : ∀ w ∈ lw_G, w.before args s = true) {H : Heap} {locs : List Loc} (p0 : Int64) (p1 : Int64)  (F : Int64 × Int64) (K : ∀ (k : Int32) (ls : Array Slot), lv_has ls 11 [(8, .int k), (4, .long F.1), (6, .long F.2), (0, .long p0), (2, .long p1)] → W p l e (headSpec wsX4_upper ({ frames := 1, cells := 0, slots := 0, locals := 23 })).room s m args below meth c H locs 0 0 Q (F0 m 92 ls [])) : ∀ (n : Nat), n < 2 ^ 30 → ∀ (k : Int32) (a : Int64 × Int64) (ls : Array Slot), k = nI (0 + n) + (-1) → it_X4_upper p0 p1 n k a = F → lv_has ls 11 [(8, .int k), (4, .long a.1), (6, .long a.2), (0, .long p0), (2, .long p1)] → W p l e (headSpec wsX4_upper ({ frames := 1, cells := 0, slots := 0, locals := 23 })).room s m args below meth c H locs 0 0 Q (F0 m 10 ls []) := by
  intro n
  induction n with
  | zero =>
    intro hn k a ls hk hF hl
    have hF : a = F := hF
    subst hF
    refine lv_iload hx hb dX4_upper_10 (lv_at hl 0 rfl) ?_
    refine lv_if_lt (tgt := 92) hx hb dX4_upper_12 (by decide) (fun _ => ?_) (fun c_ => absurd (by rw [hk]; decide) c_)
    exact K k ls hl
  | succ n ih =>
    intro hn k a ls hk hF hl
    have hk2 : k = nI (0 + n) := hk.trans (pk_m1 (0 + n))
    refine lv_iload hx hb dX4_upper_10 (lv_at hl 0 rfl) ?_
    refine lv_if_lt (tgt := 92) hx hb dX4_upper_12 (by decide) (fun c_ => absurd c_ (by rw [hk2]; exact nI_pos (by omega))) (fun _ => ?_)
    refine lv_ldc2 (v := (2 : Int64)) hx hb hown (hts _ qw_248) dX4_upper_15 ?_
    refine lv_lload hx hb dX4_upper_18 (lv_at hl 1 rfl) ?_
    refine lv_lmul hx hb dX4_upper_20 ?_
    refine lv_lload hx hb dX4_upper_21 (lv_at hl 2 rfl) ?_
    refine lv_lconst (v := (0 : Int64)) hx hb dX4_upper_23 (by decide) ?_
    refine W.lcmp hx hb dX4_upper_24 ?_
    refine lv_if_ge (tgt := 32) hx hb dX4_upper_25 (by decide) (fun c1 => ?_) (fun c1 => ?_)
    · have c1 := (lg_cmp_ge a.2 (0 : Int64)).mp c1
      refine lv_lconst (v := (0 : Int64)) hx hb dX4_upper_32 (by decide) ?_
      refine lv_ladd hx hb dX4_upper_33 ?_
      refine lv_lstore (lv' := [(4, .long (((2 : Int64) * a.1) + (0 : Int64))), (8, .int k), (6, .long a.2), (0, .long p0), (2, .long p1)]) hx hb dX4_upper_34 hl (by decide) rfl (fun ls hl => ?_)
      refine lv_ldc2 (v := (2 : Int64)) hx hb hown (hts _ qw_248) dX4_upper_36 ?_
      refine lv_lload hx hb dX4_upper_39 (lv_at hl 2 rfl) ?_
      refine lv_lmul hx hb dX4_upper_41 ?_
      refine lv_lstore (lv' := [(6, .long ((2 : Int64) * a.2)), (4, .long (((2 : Int64) * a.1) + (0 : Int64))), (8, .int k), (0, .long p0), (2, .long p1)]) hx hb dX4_upper_42 hl (by decide) rfl (fun ls hl => ?_)
      refine lv_lload_n hx hb dX4_upper_44 rfl (lv_at hl 4 rfl) ?_
      refine lv_iload hx hb dX4_upper_45 (lv_at hl 2 rfl) ?_
      refine lv_lshr (v := (j_lshr p1 k)) hx hb dX4_upper_47 rfl ?_
      refine lv_lconst (v := (1 : Int64)) hx hb dX4_upper_48 (by decide) ?_
      refine lv_land hx hb dX4_upper_49 ?_
      refine lv_lconst (v := (1 : Int64)) hx hb dX4_upper_50 (by decide) ?_
      refine W.lcmp hx hb dX4_upper_51 ?_
      refine lv_if_ne (tgt := 86) hx hb dX4_upper_52 (by decide) (fun c2 => ?_) (fun c2 => ?_)
      · have c2 := mt (lg_cmp_eq ((j_lshr p1 k) &&& (1 : Int64)) (1 : Int64)).mpr c2
        refine lv_iinc (v := (k + (-1 : Int32))) (lv' := [(8, .int (k + (-1 : Int32))), (6, .long ((2 : Int64) * a.2)), (4, .long (((2 : Int64) * a.1) + (0 : Int64))), (0, .long p0), (2, .long p1)]) hx hb dX4_upper_86 hl (k := 2) rfl rfl (by decide) rfl (fun ls hl => ?_)
        refine lv_goto (tgt := 10) hx hb dX4_upper_89 (by decide) ?_
        have hs : st_X4_upper p0 p1 k a = ((((2 : Int64) * a.1) + (0 : Int64)), ((2 : Int64) * a.2)) := by unfold st_X4_upper; rw [if_pos c1, if_neg c2]
        exact ih (by omega) _ ((((2 : Int64) * a.1) + (0 : Int64)), ((2 : Int64) * a.2)) ls (by rw [hk2]) (by rw [← hs]; exact hF) (lv_sub hl [0, 2, 1, 3, 4] rfl)
      · have c2 := (lg_cmp_eq ((j_lshr p1 k) &&& (1 : Int64)) (1 : Int64)).mp c2
        refine lv_lload hx hb dX4_upper_55 (lv_at hl 0 rfl) ?_
        refine lv_lload_n hx hb dX4_upper_57 rfl (lv_at hl 3 rfl) ?_
        refine lv_ladd hx hb dX4_upper_58 ?_
        refine lv_lstore (lv' := [(9, .long (((2 : Int64) * a.2) + p0)), (6, .long ((2 : Int64) * a.2)), (4, .long (((2 : Int64) * a.1) + (0 : Int64))), (8, .int k), (0, .long p0), (2, .long p1)]) hx hb dX4_upper_59 hl (by decide) rfl (fun ls hl => ?_)
        refine lv_lload hx hb dX4_upper_61 (lv_at hl 0 rfl) ?_
        refine lv_lload hx hb dX4_upper_63 (lv_at hl 1 rfl) ?_
        refine W.callV (W.runS (As := [.long (((2 : Int64) * a.2) + p0), .long ((2 : Int64) * a.2)]) (rest := []) ⟨hx, hb, hml, hown, hts⟩ (mt_X4_isLess l (((2 : Int64) * a.2) + p0) ((2 : Int64) * a.2)) (va_cwS 2 hts gX4_59_X4_isLess rfl rfl rfl (by decide +kernel) ⟨Nat.le_of_ble_eq_true rfl, Nat.le_of_ble_eq_true rfl⟩) preEq rfl rfl hl.1 rfl (lv_room (Nat.le_of_ble_eq_true rfl)) dX4_upper_65 ⟨Nat.le_of_ble_eq_true rfl, Nat.le_of_ble_eq_true rfl⟩) ?_
        refine W.eq (g2 := F0 m 68 ls [.int (f_X4_isLess (((2 : Int64) * a.2) + p0) ((2 : Int64) * a.2))]) rfl ?_
        refine lv_if_eq (tgt := 78) hx hb dX4_upper_68 (by decide) (fun c3 => ?_) (fun c3 => ?_)
        · refine lv_lload hx hb dX4_upper_78 (lv_at hl 2 rfl) ?_
          refine lv_lstore (lv' := [(4, .long (((2 : Int64) * a.1) + (0 : Int64))), (9, .long (((2 : Int64) * a.2) + p0)), (6, .long ((2 : Int64) * a.2)), (8, .int k), (0, .long p0), (2, .long p1)]) hx hb dX4_upper_80 hl (by decide) rfl (fun ls hl => ?_)
          refine lv_lload hx hb dX4_upper_82 (lv_at hl 1 rfl) ?_
          refine lv_lstore (lv' := [(6, .long (((2 : Int64) * a.2) + p0)), (4, .long (((2 : Int64) * a.1) + (0 : Int64))), (9, .long (((2 : Int64) * a.2) + p0)), (8, .int k), (0, .long p0), (2, .long p1)]) hx hb dX4_upper_84 hl (by decide) rfl (fun ls hl => ?_)
          refine lv_iinc (v := (k + (-1 : Int32))) (lv' := [(8, .int (k + (-1 : Int32))), (6, .long (((2 : Int64) * a.2) + p0)), (4, .long (((2 : Int64) * a.1) + (0 : Int64))), (9, .long (((2 : Int64) * a.2) + p0)), (0, .long p0), (2, .long p1)]) hx hb dX4_upper_86 hl (k := 3) rfl rfl (by decide) rfl (fun ls hl => ?_)
          refine lv_goto (tgt := 10) hx hb dX4_upper_89 (by decide) ?_
          have hs : st_X4_upper p0 p1 k a = ((((2 : Int64) * a.1) + (0 : Int64)), (((2 : Int64) * a.2) + p0)) := by unfold st_X4_upper; rw [if_pos c1, if_pos c2, if_pos c3]
          exact ih (by omega) _ ((((2 : Int64) * a.1) + (0 : Int64)), (((2 : Int64) * a.2) + p0)) ls (by rw [hk2]) (by rw [← hs]; exact hF) (lv_sub hl [0, 2, 1, 4, 5] rfl)
        · refine lv_lload hx hb dX4_upper_71 (lv_at hl 2 rfl) ?_
          refine lv_lconst (v := (1 : Int64)) hx hb dX4_upper_73 (by decide) ?_
          refine lv_ladd hx hb dX4_upper_74 ?_
          refine lv_goto (tgt := 80) hx hb dX4_upper_75 (by decide) ?_
          refine lv_lstore (lv' := [(4, .long ((((2 : Int64) * a.1) + (0 : Int64)) + (1 : Int64))), (9, .long (((2 : Int64) * a.2) + p0)), (6, .long ((2 : Int64) * a.2)), (8, .int k), (0, .long p0), (2, .long p1)]) hx hb dX4_upper_80 hl (by decide) rfl (fun ls hl => ?_)
          refine lv_lload hx hb dX4_upper_82 (lv_at hl 1 rfl) ?_
          refine lv_lstore (lv' := [(6, .long (((2 : Int64) * a.2) + p0)), (4, .long ((((2 : Int64) * a.1) + (0 : Int64)) + (1 : Int64))), (9, .long (((2 : Int64) * a.2) + p0)), (8, .int k), (0, .long p0), (2, .long p1)]) hx hb dX4_upper_84 hl (by decide) rfl (fun ls hl => ?_)
          refine lv_iinc (v := (k + (-1 : Int32))) (lv' := [(8, .int (k + (-1 : Int32))), (6, .long (((2 : Int64) * a.2) + p0)), (4, .long ((((2 : Int64) * a.1) + (0 : Int64)) + (1 : Int64))), (9, .long (((2 : Int64) * a.2) + p0)), (0, .long p0), (2, .long p1)]) hx hb dX4_upper_86 hl (k := 3) rfl rfl (by decide) rfl (fun ls hl => ?_)
          refine lv_goto (tgt := 10) hx hb dX4_upper_89 (by decide) ?_
          have hs : st_X4_upper p0 p1 k a = (((((2 : Int64) * a.1) + (0 : Int64)) + (1 : Int64)), (((2 : Int64) * a.2) + p0)) := by unfold st_X4_upper; rw [if_pos c1, if_pos c2, if_neg c3]
          exact ih (by omega) _ (((((2 : Int64) * a.1) + (0 : Int64)) + (1 : Int64)), (((2 : Int64) * a.2) + p0)) ls (by rw [hk2]) (by rw [← hs]; exact hF) (lv_sub hl [0, 2, 1, 4, 5] rfl)
    · have c1 := mt (lg_cmp_ge a.2 (0 : Int64)).mpr c1
      refine lv_lconst (v := (1 : Int64)) hx hb dX4_upper_28 (by decide) ?_
      refine lv_goto (tgt := 33) hx hb dX4_upper_29 (by decide) ?_
      refine lv_ladd hx hb dX4_upper_33 ?_
      refine lv_lstore (lv' := [(4, .long (((2 : Int64) * a.1) + (1 : Int64))), (8, .int k), (6, .long a.2), (0, .long p0), (2, .long p1)]) hx hb dX4_upper_34 hl (by decide) rfl (fun ls hl => ?_)
      refine lv_ldc2 (v := (2 : Int64)) hx hb hown (hts _ qw_248) dX4_upper_36 ?_
      refine lv_lload hx hb dX4_upper_39 (lv_at hl 2 rfl) ?_
      refine lv_lmul hx hb dX4_upper_41 ?_
      refine lv_lstore (lv' := [(6, .long ((2 : Int64) * a.2)), (4, .long (((2 : Int64) * a.1) + (1 : Int64))), (8, .int k), (0, .long p0), (2, .long p1)]) hx hb dX4_upper_42 hl (by decide) rfl (fun ls hl => ?_)
      refine lv_lload_n hx hb dX4_upper_44 rfl (lv_at hl 4 rfl) ?_
      refine lv_iload hx hb dX4_upper_45 (lv_at hl 2 rfl) ?_
      refine lv_lshr (v := (j_lshr p1 k)) hx hb dX4_upper_47 rfl ?_
      refine lv_lconst (v := (1 : Int64)) hx hb dX4_upper_48 (by decide) ?_
      refine lv_land hx hb dX4_upper_49 ?_
      refine lv_lconst (v := (1 : Int64)) hx hb dX4_upper_50 (by decide) ?_
      refine W.lcmp hx hb dX4_upper_51 ?_
      refine lv_if_ne (tgt := 86) hx hb dX4_upper_52 (by decide) (fun c4 => ?_) (fun c4 => ?_)
      · have c4 := mt (lg_cmp_eq ((j_lshr p1 k) &&& (1 : Int64)) (1 : Int64)).mpr c4
        refine lv_iinc (v := (k + (-1 : Int32))) (lv' := [(8, .int (k + (-1 : Int32))), (6, .long ((2 : Int64) * a.2)), (4, .long (((2 : Int64) * a.1) + (1 : Int64))), (0, .long p0), (2, .long p1)]) hx hb dX4_upper_86 hl (k := 2) rfl rfl (by decide) rfl (fun ls hl => ?_)
        refine lv_goto (tgt := 10) hx hb dX4_upper_89 (by decide) ?_
        have hs : st_X4_upper p0 p1 k a = ((((2 : Int64) * a.1) + (1 : Int64)), ((2 : Int64) * a.2)) := by unfold st_X4_upper; rw [if_neg c1, if_neg c4]
        exact ih (by omega) _ ((((2 : Int64) * a.1) + (1 : Int64)), ((2 : Int64) * a.2)) ls (by rw [hk2]) (by rw [← hs]; exact hF) (lv_sub hl [0, 2, 1, 3, 4] rfl)
      · have c4 := (lg_cmp_eq ((j_lshr p1 k) &&& (1 : Int64)) (1 : Int64)).mp c4
        refine lv_lload hx hb dX4_upper_55 (lv_at hl 0 rfl) ?_
        refine lv_lload_n hx hb dX4_upper_57 rfl (lv_at hl 3 rfl) ?_
        refine lv_ladd hx hb dX4_upper_58 ?_
        refine lv_lstore (lv' := [(9, .long (((2 : Int64) * a.2) + p0)), (6, .long ((2 : Int64) * a.2)), (4, .long (((2 : Int64) * a.1) + (1 : Int64))), (8, .int k), (0, .long p0), (2, .long p1)]) hx hb dX4_upper_59 hl (by decide) rfl (fun ls hl => ?_)
        refine lv_lload hx hb dX4_upper_61 (lv_at hl 0 rfl) ?_
        refine lv_lload hx hb dX4_upper_63 (lv_at hl 1 rfl) ?_
        refine W.callV (W.runS (As := [.long (((2 : Int64) * a.2) + p0), .long ((2 : Int64) * a.2)]) (rest := []) ⟨hx, hb, hml, hown, hts⟩ (mt_X4_isLess l (((2 : Int64) * a.2) + p0) ((2 : Int64) * a.2)) (va_cwS 2 hts gX4_59_X4_isLess rfl rfl rfl (by decide +kernel) ⟨Nat.le_of_ble_eq_true rfl, Nat.le_of_ble_eq_true rfl⟩) preEq rfl rfl hl.1 rfl (lv_room (Nat.le_of_ble_eq_true rfl)) dX4_upper_65 ⟨Nat.le_of_ble_eq_true rfl, Nat.le_of_ble_eq_true rfl⟩) ?_
        refine W.eq (g2 := F0 m 68 ls [.int (f_X4_isLess (((2 : Int64) * a.2) + p0) ((2 : Int64) * a.2))]) rfl ?_
        refine lv_if_eq (tgt := 78) hx hb dX4_upper_68 (by decide) (fun c5 => ?_) (fun c5 => ?_)
        · refine lv_lload hx hb dX4_upper_78 (lv_at hl 2 rfl) ?_
          refine lv_lstore (lv' := [(4, .long (((2 : Int64) * a.1) + (1 : Int64))), (9, .long (((2 : Int64) * a.2) + p0)), (6, .long ((2 : Int64) * a.2)), (8, .int k), (0, .long p0), (2, .long p1)]) hx hb dX4_upper_80 hl (by decide) rfl (fun ls hl => ?_)
          refine lv_lload hx hb dX4_upper_82 (lv_at hl 1 rfl) ?_
          refine lv_lstore (lv' := [(6, .long (((2 : Int64) * a.2) + p0)), (4, .long (((2 : Int64) * a.1) + (1 : Int64))), (9, .long (((2 : Int64) * a.2) + p0)), (8, .int k), (0, .long p0), (2, .long p1)]) hx hb dX4_upper_84 hl (by decide) rfl (fun ls hl => ?_)
          refine lv_iinc (v := (k + (-1 : Int32))) (lv' := [(8, .int (k + (-1 : Int32))), (6, .long (((2 : Int64) * a.2) + p0)), (4, .long (((2 : Int64) * a.1) + (1 : Int64))), (9, .long (((2 : Int64) * a.2) + p0)), (0, .long p0), (2, .long p1)]) hx hb dX4_upper_86 hl (k := 3) rfl rfl (by decide) rfl (fun ls hl => ?_)
          refine lv_goto (tgt := 10) hx hb dX4_upper_89 (by decide) ?_
          have hs : st_X4_upper p0 p1 k a = ((((2 : Int64) * a.1) + (1 : Int64)), (((2 : Int64) * a.2) + p0)) := by unfold st_X4_upper; rw [if_neg c1, if_pos c4, if_pos c5]
          exact ih (by omega) _ ((((2 : Int64) * a.1) + (1 : Int64)), (((2 : Int64) * a.2) + p0)) ls (by rw [hk2]) (by rw [← hs]; exact hF) (lv_sub hl [0, 2, 1, 4, 5] rfl)
        · refine lv_lload hx hb dX4_upper_71 (lv_at hl 2 rfl) ?_
          refine lv_lconst (v := (1 : Int64)) hx hb dX4_upper_73 (by decide) ?_
          refine lv_ladd hx hb dX4_upper_74 ?_
          refine lv_goto (tgt := 80) hx hb dX4_upper_75 (by decide) ?_
          refine lv_lstore (lv' := [(4, .long ((((2 : Int64) * a.1) + (1 : Int64)) + (1 : Int64))), (9, .long (((2 : Int64) * a.2) + p0)), (6, .long ((2 : Int64) * a.2)), (8, .int k), (0, .long p0), (2, .long p1)]) hx hb dX4_upper_80 hl (by decide) rfl (fun ls hl => ?_)
          refine lv_lload hx hb dX4_upper_82 (lv_at hl 1 rfl) ?_
          refine lv_lstore (lv' := [(6, .long (((2 : Int64) * a.2) + p0)), (4, .long ((((2 : Int64) * a.1) + (1 : Int64)) + (1 : Int64))), (9, .long (((2 : Int64) * a.2) + p0)), (8, .int k), (0, .long p0), (2, .long p1)]) hx hb dX4_upper_84 hl (by decide) rfl (fun ls hl => ?_)
          refine lv_iinc (v := (k + (-1 : Int32))) (lv' := [(8, .int (k + (-1 : Int32))), (6, .long (((2 : Int64) * a.2) + p0)), (4, .long ((((2 : Int64) * a.1) + (1 : Int64)) + (1 : Int64))), (9, .long (((2 : Int64) * a.2) + p0)), (0, .long p0), (2, .long p1)]) hx hb dX4_upper_86 hl (k := 3) rfl rfl (by decide) rfl (fun ls hl => ?_)
          refine lv_goto (tgt := 10) hx hb dX4_upper_89 (by decide) ?_
          have hs : st_X4_upper p0 p1 k a = (((((2 : Int64) * a.1) + (1 : Int64)) + (1 : Int64)), (((2 : Int64) * a.2) + p0)) := by unfold st_X4_upper; rw [if_neg c1, if_pos c4, if_neg c5]
          exact ih (by omega) _ (((((2 : Int64) * a.1) + (1 : Int64)) + (1 : Int64)), (((2 : Int64) * a.2) + p0)) ls (by rw [hk2]) (by rw [← hs]; exact hF) (lv_sub hl [0, 2, 1, 4, 5] rfl)
theorem gx_X4_upper (p0 : Int64) (p1 : Int64) : ∃ v : Int64 × Int64, v = (it_X4_upper p0 p1 64 (63 : Int32) ((0 : Int64), (0 : Int64))) := ⟨_, rfl⟩
noncomputable def gi_X4_upper (p0 : Int64) (p1 : Int64) : Int64 × Int64 := Classical.choose (gx_X4_upper p0 p1)
theorem gs_X4_upper (p0 : Int64) (p1 : Int64) : gi_X4_upper p0 p1 = (it_X4_upper p0 p1 64 (63 : Int32) ((0 : Int64), (0 : Int64))) := Classical.choose_spec (gx_X4_upper p0 p1)
theorem ge_X4_upper (p0 : Int64) (p1 : Int64) : (it_X4_upper p0 p1 64 (63 : Int32) ((0 : Int64), (0 : Int64))) = gi_X4_upper p0 p1 := by rw [gs_X4_upper]
noncomputable def f_X4_upper (p0 : Int64) (p1 : Int64) : Int64 := (gi_X4_upper p0 p1).1
set_option maxHeartbeats 4000000 in
set_option maxRecDepth 100000 in
theorem mt_X4_upper (l : Launch) (p0 : Int64) (p1 : Int64) : Met l yX4_upper wsX4_upper ({ frames := 1, cells := 0, slots := 0, locals := 23 }) (fun v _ => v = ([.long p0, .long p1] : List Value).toArray) (k2_QcV (.long (f_X4_upper p0 p1))) 0 0 (fun _ => False) := by
  refine Met.ofW (cc := cX4_upper) (maxL := 11) (ret := (some .long)) (by decide) rfl ?_
  intro p e s m args below meth c s₁ B hml hv
  subst hv
  have hx := B.exec
  have hb := B.bytes
  have hr := B.returns
  have hts0 := atoms_spec (ws := wsX4_upper) B.pre
  have hts := fun (w : Cond) (h : w ∈ lw_G) => hts0 w (List.mem_cons_of_mem _ h)
  have hown : s.vm.findClass RX4 = some m.cls := findClass_of_methodNamed B.named
  have hlocks := B.notSynchronized
  have hl := lv_entry ([.long p0, .long p1]) (n := 11) (Nat.le_of_ble_eq_true rfl)
  rw [lg_entry_eq]
  generalize (lg_sl ([.long p0, .long p1]) ++ List.replicate (11 - (lg_sl ([.long p0, .long p1])).length) Slot.unset).toArray = ls at hl ⊢
  have hl : lv_has ls 11 [(0, .long p0), (2, .long p1)] := hl
  refine lv_lconst (v := (0 : Int64)) hx hb dX4_upper_0 (by decide) ?_
  refine lv_lstore (lv' := [(4, .long (0 : Int64)), (0, .long p0), (2, .long p1)]) hx hb dX4_upper_1 hl (by decide) rfl (fun ls hl => ?_)
  refine lv_lconst (v := (0 : Int64)) hx hb dX4_upper_3 (by decide) ?_
  refine lv_lstore (lv' := [(6, .long (0 : Int64)), (4, .long (0 : Int64)), (0, .long p0), (2, .long p1)]) hx hb dX4_upper_4 hl (by decide) rfl (fun ls hl => ?_)
  refine lv_bipush (v := (63 : Int32)) hx hb dX4_upper_6 (by decide) ?_
  refine lv_istore (lv' := [(8, .int (63 : Int32)), (6, .long (0 : Int64)), (4, .long (0 : Int64)), (0, .long p0), (2, .long p1)]) hx hb dX4_upper_8 hl (by decide) rfl (fun ls hl => ?_)
  refine lp_X4_upper hx hb hml hown hts p0 p1  (gi_X4_upper p0 p1) (fun k ls hl => ?_) 64 (by decide) _ ((0 : Int64), (0 : Int64)) ls (by decide) (ge_X4_upper p0 p1) (lv_sub hl [0, 2, 1, 3, 4] rfl)
  refine lv_lload hx hb dX4_upper_92 (lv_at hl 1 rfl) ?_
  exact W.lret (v := f_X4_upper p0 p1) hx hb hr (fun t ht hW => ⟨rfl, ht⟩) (fun _ h => by cases h) dX4_upper_94
def st_X4_divide (p0 : Int64) (p1 : Int64) (k : Int32) (a : SmT) : SmT :=
  if (0 : Int64) ≤ a.2.2.2.2.2.2.2.2.2.2.2.2 then
    if (f_X4_isLess (((2 : Int64) * a.2.2.2.2.2.2.2.2.2.2.2.2) + ((j_lshr p0 k) &&& (1 : Int64))) p1) = 0 then
      (sm12 (sm11 a (((2 : Int64) * a.2.2.2.2.2.2.2.2.2.2.2.1) + (1 : Int64))) ((((2 : Int64) * a.2.2.2.2.2.2.2.2.2.2.2.2) + ((j_lshr p0 k) &&& (1 : Int64))) - p1))
    else
      (sm12 (sm11 a ((2 : Int64) * a.2.2.2.2.2.2.2.2.2.2.2.1)) (((2 : Int64) * a.2.2.2.2.2.2.2.2.2.2.2.2) + ((j_lshr p0 k) &&& (1 : Int64))))
  else
    (sm12 (sm11 a (((2 : Int64) * a.2.2.2.2.2.2.2.2.2.2.2.1) + (1 : Int64))) ((((2 : Int64) * a.2.2.2.2.2.2.2.2.2.2.2.2) + ((j_lshr p0 k) &&& (1 : Int64))) - p1))
def it_X4_divide (p0 : Int64) (p1 : Int64) : Nat → Int32 → SmT → SmT
  | 0, _, a => a
  | n + 1, k, a => it_X4_divide p0 p1 n (k + (-1 : Int32)) (st_X4_divide p0 p1 k a)
set_option maxHeartbeats 4000000 in
set_option maxRecDepth 100000 in
theorem lp_X4_divide {p : Program} {l : Launch} {e : Env} {s : State} {m : MethodId} {args : Array Value} {below : List Frame} {meth : Method} {c : Code} {Q : State → Prop} (hx : p.tables.exec = Jvm.exec) (hb : c.code = cX4_divide) (hml : c.maxLocals = 7) (hown : s.vm.findClass RX4 = some m.cls) (hts : ∀ w ∈ lw_G, w.before args s = true) (dC : Nat → ClassId) (dI : Nat → Nat → Nat) (g0 g1 g2 : Nat) (cB cC : ClassId) (A : Nat → Prop) (H0 : Heap) (hK : va_K (dC, dI) vwCl [(cB, .long), (cC, .long)] s) (p0 : Int64) (p1 : Int64)  (F : SmT) (K : ∀ (k : Int32) (H : Heap) (locs : List Loc) (ls : Array Slot), lv_has ls 7 [(5, .int k), (0, .ref g0), (1, .long p0), (3, .long p1)] → va_P (dC, dI) vwCl (Wm g0 g1 g2 cB cC F) H → va_D A (Wm g0 g1 g2 cB cC F) → va_S A H0 H locs → W p l e (headSpec wsX4_divide ({ frames := 1, cells := 0, slots := 0, locals := 23 })).room s m args below meth c H locs 0 0 Q (F0 m 108 ls [])) : ∀ (n : Nat), n < 2 ^ 30 → ∀ (k : Int32) (a : SmT) (H : Heap) (locs : List Loc) (ls : Array Slot), k = nI (0 + n) + (-1) → it_X4_divide p0 p1 n k a = F → lv_has ls 7 [(5, .int k), (0, .ref g0), (1, .long p0), (3, .long p1)] → va_P (dC, dI) vwCl (Wm g0 g1 g2 cB cC a) H → va_D A (Wm g0 g1 g2 cB cC a) → va_S A H0 H locs → W p l e (headSpec wsX4_divide ({ frames := 1, cells := 0, slots := 0, locals := 23 })).room s m args below meth c H locs 0 0 Q (F0 m 14 ls []) := by
  intro n
  induction n with
  | zero =>
    intro hn k a H locs ls hk hF hl hP hD hS
    have hF : a = F := hF
    subst hF
    refine lv_iload hx hb dX4_divide_14 (lv_at hl 0 rfl) ?_
    refine lv_if_lt (tgt := 108) hx hb dX4_divide_16 (by decide) (fun _ => ?_) (fun c_ => absurd (by rw [hk]; decide) c_)
    exact K k H locs ls hl hP hD hS
  | succ n ih =>
    intro hn k a H locs ls hk hF hl hP hD hS
    have hk2 : k = nI (0 + n) := hk.trans (pk_m1 (0 + n))
    refine lv_iload hx hb dX4_divide_14 (lv_at hl 0 rfl) ?_
    refine lv_if_lt (tgt := 108) hx hb dX4_divide_16 (by decide) (fun c_ => absurd c_ (by rw [hk2]; exact nI_pos (by omega))) (fun _ => ?_)
    refine lv_aload_n hx hb dX4_divide_19 rfl (lv_at hl 1 rfl) ?_
    refine va_get (D := (dC, dI)) (ci := 1) (v := .long a.2.2.2.2.2.2.2.2.2.2.2.2) (C := RX4) (T := TX4) (N := 13) hx hb hts inX4 hown hK hP 0 rfl rfl 12 (by decide) (hts _ qw_256) (fun _ h9 => h9) rfl dX4_divide_20 ?_
    refine lv_lconst (v := (0 : Int64)) hx hb dX4_divide_23 (by decide) ?_
    refine W.lcmp hx hb dX4_divide_24 ?_
    refine lv_if_ge (tgt := 32) hx hb dX4_divide_25 (by decide) (fun c1 => ?_) (fun c1 => ?_)
    · have c1 := (lg_cmp_ge a.2.2.2.2.2.2.2.2.2.2.2.2 (0 : Int64)).mp c1
      refine lv_iconst (v := (0 : Int32)) hx hb dX4_divide_32 (by decide) ?_
      refine lv_istore (lv' := [(6, .int (0 : Int32)), (5, .int k), (0, .ref g0), (1, .long p0), (3, .long p1)]) hx hb dX4_divide_33 hl (by decide) rfl (fun ls hl => ?_)
      refine lv_aload_n hx hb dX4_divide_35 rfl (lv_at hl 2 rfl) ?_
      refine lv_ldc2 (v := (2 : Int64)) hx hb hown (hts _ qw_248) dX4_divide_36 ?_
      refine lv_aload_n hx hb dX4_divide_39 rfl (lv_at hl 2 rfl) ?_
      refine va_get (D := (dC, dI)) (ci := 1) (v := .long a.2.2.2.2.2.2.2.2.2.2.2.2) (C := RX4) (T := TX4) (N := 13) hx hb hts inX4 hown hK hP 0 rfl rfl 12 (by decide) (hts _ qw_256) (fun _ h9 => h9) rfl dX4_divide_40 ?_
      refine lv_lmul hx hb dX4_divide_43 ?_
      refine lv_lload_n hx hb dX4_divide_44 rfl (lv_at hl 3 rfl) ?_
      refine lv_iload hx hb dX4_divide_45 (lv_at hl 1 rfl) ?_
      refine lv_lshr (v := (j_lshr p0 k)) hx hb dX4_divide_47 rfl ?_
      refine lv_lconst (v := (1 : Int64)) hx hb dX4_divide_48 (by decide) ?_
      refine lv_land hx hb dX4_divide_49 ?_
      refine lv_ladd hx hb dX4_divide_50 ?_
      refine va_put (D := (dC, dI)) (ci := 1) (v := .long (((2 : Int64) * a.2.2.2.2.2.2.2.2.2.2.2.2) + ((j_lshr p0 k) &&& (1 : Int64)))) (ty := .long) (C := RX4) (T := TX4) (N := 13) hx hb hts inX4 tyX4 tyX4_ok nmX4 hown hK hP hD hS 0 rfl rfl 12 (by decide) (hts _ qw_256) (fun _ h9 => h9) rfl (by decide +kernel) rfl rfl (Nat.le_of_ble_eq_true rfl) dX4_divide_51 (fun H locs hP hD hS => ?_)
      have hP : va_P (dC, dI) vwCl (Wm g0 g1 g2 cB cC (sm12 a (((2 : Int64) * a.2.2.2.2.2.2.2.2.2.2.2.2) + ((j_lshr p0 k) &&& (1 : Int64))))) H := hP
      have hD : va_D A (Wm g0 g1 g2 cB cC (sm12 a (((2 : Int64) * a.2.2.2.2.2.2.2.2.2.2.2.2) + ((j_lshr p0 k) &&& (1 : Int64))))) := hD
      refine lv_aload_n hx hb dX4_divide_54 rfl (lv_at hl 2 rfl) ?_
      refine lv_ldc2 (v := (2 : Int64)) hx hb hown (hts _ qw_248) dX4_divide_55 ?_
      refine lv_aload_n hx hb dX4_divide_58 rfl (lv_at hl 2 rfl) ?_
      refine va_get (D := (dC, dI)) (ci := 1) (v := .long a.2.2.2.2.2.2.2.2.2.2.2.1) (C := RX4) (T := TX4) (N := 13) hx hb hts inX4 hown hK hP 0 rfl rfl 11 (by decide) (hts _ qw_257) (fun _ h9 => h9) rfl dX4_divide_59 ?_
      refine lv_lmul hx hb dX4_divide_62 ?_
      refine va_put (D := (dC, dI)) (ci := 1) (v := .long ((2 : Int64) * a.2.2.2.2.2.2.2.2.2.2.2.1)) (ty := .long) (C := RX4) (T := TX4) (N := 13) hx hb hts inX4 tyX4 tyX4_ok nmX4 hown hK hP hD hS 0 rfl rfl 11 (by decide) (hts _ qw_257) (fun _ h9 => h9) rfl (by decide +kernel) rfl rfl (Nat.le_of_ble_eq_true rfl) dX4_divide_63 (fun H locs hP hD hS => ?_)
      have hP : va_P (dC, dI) vwCl (Wm g0 g1 g2 cB cC (sm12 (sm11 a ((2 : Int64) * a.2.2.2.2.2.2.2.2.2.2.2.1)) (((2 : Int64) * a.2.2.2.2.2.2.2.2.2.2.2.2) + ((j_lshr p0 k) &&& (1 : Int64))))) H := hP
      have hD : va_D A (Wm g0 g1 g2 cB cC (sm12 (sm11 a ((2 : Int64) * a.2.2.2.2.2.2.2.2.2.2.2.1)) (((2 : Int64) * a.2.2.2.2.2.2.2.2.2.2.2.2) + ((j_lshr p0 k) &&& (1 : Int64))))) := hD
      refine lv_iload hx hb dX4_divide_66 (lv_at hl 0 rfl) ?_
      refine lv_if_ne (tgt := 82) hx hb dX4_divide_68 (by decide) (fun c_ => absurd c_ (by decide)) (fun _ => ?_)
      refine lv_aload_n hx hb dX4_divide_71 rfl (lv_at hl 2 rfl) ?_
      refine va_get (D := (dC, dI)) (ci := 1) (v := .long (((2 : Int64) * a.2.2.2.2.2.2.2.2.2.2.2.2) + ((j_lshr p0 k) &&& (1 : Int64)))) (C := RX4) (T := TX4) (N := 13) hx hb hts inX4 hown hK hP 0 rfl rfl 12 (by decide) (hts _ qw_256) (fun _ h9 => h9) rfl dX4_divide_72 ?_
      refine lv_lload_n hx hb dX4_divide_75 rfl (lv_at hl 4 rfl) ?_
      refine W.callV (W.runS (As := [.long (((2 : Int64) * a.2.2.2.2.2.2.2.2.2.2.2.2) + ((j_lshr p0 k) &&& (1 : Int64))), .long p1]) (rest := []) ⟨hx, hb, hml, hown, hts⟩ (mt_X4_isLess l (((2 : Int64) * a.2.2.2.2.2.2.2.2.2.2.2.2) + ((j_lshr p0 k) &&& (1 : Int64))) p1) (va_cwS 2 hts gX4_59_X4_isLess rfl rfl rfl (by decide +kernel) ⟨Nat.le_of_ble_eq_true rfl, Nat.le_of_ble_eq_true rfl⟩) preEq rfl rfl hl.1 rfl (lv_room (Nat.le_of_ble_eq_true rfl)) dX4_divide_76 ⟨Nat.le_of_ble_eq_true rfl, Nat.le_of_ble_eq_true rfl⟩) ?_
      refine W.eq (g2 := F0 m 79 ls [.int (f_X4_isLess (((2 : Int64) * a.2.2.2.2.2.2.2.2.2.2.2.2) + ((j_lshr p0 k) &&& (1 : Int64))) p1)]) rfl ?_
      refine lv_if_ne (tgt := 102) hx hb dX4_divide_79 (by decide) (fun c2 => ?_) (fun c2 => ?_)
      · refine lv_iinc (v := (k + (-1 : Int32))) (lv' := [(5, .int (k + (-1 : Int32))), (6, .int (0 : Int32)), (0, .ref g0), (1, .long p0), (3, .long p1)]) hx hb dX4_divide_102 hl (k := 1) rfl rfl (by decide) rfl (fun ls hl => ?_)
        refine lv_goto (tgt := 14) hx hb dX4_divide_105 (by decide) ?_
        have hs : st_X4_divide p0 p1 k a = (sm12 (sm11 a ((2 : Int64) * a.2.2.2.2.2.2.2.2.2.2.2.1)) (((2 : Int64) * a.2.2.2.2.2.2.2.2.2.2.2.2) + ((j_lshr p0 k) &&& (1 : Int64)))) := by unfold st_X4_divide; rw [if_pos c1, if_neg c2]
        exact ih (by omega) _ (sm12 (sm11 a ((2 : Int64) * a.2.2.2.2.2.2.2.2.2.2.2.1)) (((2 : Int64) * a.2.2.2.2.2.2.2.2.2.2.2.2) + ((j_lshr p0 k) &&& (1 : Int64)))) _ _ ls (by rw [hk2]) (by rw [← hs]; exact hF) (lv_sub hl [0, 2, 3, 4] rfl) hP hD hS
      · refine lv_aload_n hx hb dX4_divide_82 rfl (lv_at hl 2 rfl) ?_
        refine lv_aload_n hx hb dX4_divide_83 rfl (lv_at hl 2 rfl) ?_
        refine va_get (D := (dC, dI)) (ci := 1) (v := .long (((2 : Int64) * a.2.2.2.2.2.2.2.2.2.2.2.2) + ((j_lshr p0 k) &&& (1 : Int64)))) (C := RX4) (T := TX4) (N := 13) hx hb hts inX4 hown hK hP 0 rfl rfl 12 (by decide) (hts _ qw_256) (fun _ h9 => h9) rfl dX4_divide_84 ?_
        refine lv_lload_n hx hb dX4_divide_87 rfl (lv_at hl 4 rfl) ?_
        refine lv_lsub hx hb dX4_divide_88 ?_
        refine va_put (D := (dC, dI)) (ci := 1) (v := .long ((((2 : Int64) * a.2.2.2.2.2.2.2.2.2.2.2.2) + ((j_lshr p0 k) &&& (1 : Int64))) - p1)) (ty := .long) (C := RX4) (T := TX4) (N := 13) hx hb hts inX4 tyX4 tyX4_ok nmX4 hown hK hP hD hS 0 rfl rfl 12 (by decide) (hts _ qw_256) (fun _ h9 => h9) rfl (by decide +kernel) rfl rfl (Nat.le_of_ble_eq_true rfl) dX4_divide_89 (fun H locs hP hD hS => ?_)
        have hP : va_P (dC, dI) vwCl (Wm g0 g1 g2 cB cC (sm12 (sm11 a ((2 : Int64) * a.2.2.2.2.2.2.2.2.2.2.2.1)) ((((2 : Int64) * a.2.2.2.2.2.2.2.2.2.2.2.2) + ((j_lshr p0 k) &&& (1 : Int64))) - p1))) H := hP
        have hD : va_D A (Wm g0 g1 g2 cB cC (sm12 (sm11 a ((2 : Int64) * a.2.2.2.2.2.2.2.2.2.2.2.1)) ((((2 : Int64) * a.2.2.2.2.2.2.2.2.2.2.2.2) + ((j_lshr p0 k) &&& (1 : Int64))) - p1))) := hD
        refine lv_aload_n hx hb dX4_divide_92 rfl (lv_at hl 2 rfl) ?_
        refine lv_aload_n hx hb dX4_divide_93 rfl (lv_at hl 2 rfl) ?_
        refine va_get (D := (dC, dI)) (ci := 1) (v := .long ((2 : Int64) * a.2.2.2.2.2.2.2.2.2.2.2.1)) (C := RX4) (T := TX4) (N := 13) hx hb hts inX4 hown hK hP 0 rfl rfl 11 (by decide) (hts _ qw_257) (fun _ h9 => h9) rfl dX4_divide_94 ?_
        refine lv_lconst (v := (1 : Int64)) hx hb dX4_divide_97 (by decide) ?_
        refine lv_ladd hx hb dX4_divide_98 ?_
        refine va_put (D := (dC, dI)) (ci := 1) (v := .long (((2 : Int64) * a.2.2.2.2.2.2.2.2.2.2.2.1) + (1 : Int64))) (ty := .long) (C := RX4) (T := TX4) (N := 13) hx hb hts inX4 tyX4 tyX4_ok nmX4 hown hK hP hD hS 0 rfl rfl 11 (by decide) (hts _ qw_257) (fun _ h9 => h9) rfl (by decide +kernel) rfl rfl (Nat.le_of_ble_eq_true rfl) dX4_divide_99 (fun H locs hP hD hS => ?_)
        have hP : va_P (dC, dI) vwCl (Wm g0 g1 g2 cB cC (sm12 (sm11 a (((2 : Int64) * a.2.2.2.2.2.2.2.2.2.2.2.1) + (1 : Int64))) ((((2 : Int64) * a.2.2.2.2.2.2.2.2.2.2.2.2) + ((j_lshr p0 k) &&& (1 : Int64))) - p1))) H := hP
        have hD : va_D A (Wm g0 g1 g2 cB cC (sm12 (sm11 a (((2 : Int64) * a.2.2.2.2.2.2.2.2.2.2.2.1) + (1 : Int64))) ((((2 : Int64) * a.2.2.2.2.2.2.2.2.2.2.2.2) + ((j_lshr p0 k) &&& (1 : Int64))) - p1))) := hD
        refine lv_iinc (v := (k + (-1 : Int32))) (lv' := [(5, .int (k + (-1 : Int32))), (6, .int (0 : Int32)), (0, .ref g0), (1, .long p0), (3, .long p1)]) hx hb dX4_divide_102 hl (k := 1) rfl rfl (by decide) rfl (fun ls hl => ?_)
        refine lv_goto (tgt := 14) hx hb dX4_divide_105 (by decide) ?_
        have hs : st_X4_divide p0 p1 k a = (sm12 (sm11 a (((2 : Int64) * a.2.2.2.2.2.2.2.2.2.2.2.1) + (1 : Int64))) ((((2 : Int64) * a.2.2.2.2.2.2.2.2.2.2.2.2) + ((j_lshr p0 k) &&& (1 : Int64))) - p1)) := by unfold st_X4_divide; rw [if_pos c1, if_pos c2]
        exact ih (by omega) _ (sm12 (sm11 a (((2 : Int64) * a.2.2.2.2.2.2.2.2.2.2.2.1) + (1 : Int64))) ((((2 : Int64) * a.2.2.2.2.2.2.2.2.2.2.2.2) + ((j_lshr p0 k) &&& (1 : Int64))) - p1)) _ _ ls (by rw [hk2]) (by rw [← hs]; exact hF) (lv_sub hl [0, 2, 3, 4] rfl) hP hD hS
    · have c1 := mt (lg_cmp_ge a.2.2.2.2.2.2.2.2.2.2.2.2 (0 : Int64)).mpr c1
      refine lv_iconst (v := (1 : Int32)) hx hb dX4_divide_28 (by decide) ?_
      refine lv_goto (tgt := 33) hx hb dX4_divide_29 (by decide) ?_
      refine lv_istore (lv' := [(6, .int (1 : Int32)), (5, .int k), (0, .ref g0), (1, .long p0), (3, .long p1)]) hx hb dX4_divide_33 hl (by decide) rfl (fun ls hl => ?_)
      refine lv_aload_n hx hb dX4_divide_35 rfl (lv_at hl 2 rfl) ?_
      refine lv_ldc2 (v := (2 : Int64)) hx hb hown (hts _ qw_248) dX4_divide_36 ?_
      refine lv_aload_n hx hb dX4_divide_39 rfl (lv_at hl 2 rfl) ?_
      refine va_get (D := (dC, dI)) (ci := 1) (v := .long a.2.2.2.2.2.2.2.2.2.2.2.2) (C := RX4) (T := TX4) (N := 13) hx hb hts inX4 hown hK hP 0 rfl rfl 12 (by decide) (hts _ qw_256) (fun _ h9 => h9) rfl dX4_divide_40 ?_
      refine lv_lmul hx hb dX4_divide_43 ?_
      refine lv_lload_n hx hb dX4_divide_44 rfl (lv_at hl 3 rfl) ?_
      refine lv_iload hx hb dX4_divide_45 (lv_at hl 1 rfl) ?_
      refine lv_lshr (v := (j_lshr p0 k)) hx hb dX4_divide_47 rfl ?_
      refine lv_lconst (v := (1 : Int64)) hx hb dX4_divide_48 (by decide) ?_
      refine lv_land hx hb dX4_divide_49 ?_
      refine lv_ladd hx hb dX4_divide_50 ?_
      refine va_put (D := (dC, dI)) (ci := 1) (v := .long (((2 : Int64) * a.2.2.2.2.2.2.2.2.2.2.2.2) + ((j_lshr p0 k) &&& (1 : Int64)))) (ty := .long) (C := RX4) (T := TX4) (N := 13) hx hb hts inX4 tyX4 tyX4_ok nmX4 hown hK hP hD hS 0 rfl rfl 12 (by decide) (hts _ qw_256) (fun _ h9 => h9) rfl (by decide +kernel) rfl rfl (Nat.le_of_ble_eq_true rfl) dX4_divide_51 (fun H locs hP hD hS => ?_)
      have hP : va_P (dC, dI) vwCl (Wm g0 g1 g2 cB cC (sm12 a (((2 : Int64) * a.2.2.2.2.2.2.2.2.2.2.2.2) + ((j_lshr p0 k) &&& (1 : Int64))))) H := hP
      have hD : va_D A (Wm g0 g1 g2 cB cC (sm12 a (((2 : Int64) * a.2.2.2.2.2.2.2.2.2.2.2.2) + ((j_lshr p0 k) &&& (1 : Int64))))) := hD
      refine lv_aload_n hx hb dX4_divide_54 rfl (lv_at hl 2 rfl) ?_
      refine lv_ldc2 (v := (2 : Int64)) hx hb hown (hts _ qw_248) dX4_divide_55 ?_
      refine lv_aload_n hx hb dX4_divide_58 rfl (lv_at hl 2 rfl) ?_
      refine va_get (D := (dC, dI)) (ci := 1) (v := .long a.2.2.2.2.2.2.2.2.2.2.2.1) (C := RX4) (T := TX4) (N := 13) hx hb hts inX4 hown hK hP 0 rfl rfl 11 (by decide) (hts _ qw_257) (fun _ h9 => h9) rfl dX4_divide_59 ?_
      refine lv_lmul hx hb dX4_divide_62 ?_
      refine va_put (D := (dC, dI)) (ci := 1) (v := .long ((2 : Int64) * a.2.2.2.2.2.2.2.2.2.2.2.1)) (ty := .long) (C := RX4) (T := TX4) (N := 13) hx hb hts inX4 tyX4 tyX4_ok nmX4 hown hK hP hD hS 0 rfl rfl 11 (by decide) (hts _ qw_257) (fun _ h9 => h9) rfl (by decide +kernel) rfl rfl (Nat.le_of_ble_eq_true rfl) dX4_divide_63 (fun H locs hP hD hS => ?_)
      have hP : va_P (dC, dI) vwCl (Wm g0 g1 g2 cB cC (sm12 (sm11 a ((2 : Int64) * a.2.2.2.2.2.2.2.2.2.2.2.1)) (((2 : Int64) * a.2.2.2.2.2.2.2.2.2.2.2.2) + ((j_lshr p0 k) &&& (1 : Int64))))) H := hP
      have hD : va_D A (Wm g0 g1 g2 cB cC (sm12 (sm11 a ((2 : Int64) * a.2.2.2.2.2.2.2.2.2.2.2.1)) (((2 : Int64) * a.2.2.2.2.2.2.2.2.2.2.2.2) + ((j_lshr p0 k) &&& (1 : Int64))))) := hD
      refine lv_iload hx hb dX4_divide_66 (lv_at hl 0 rfl) ?_
      refine lv_if_ne (tgt := 82) hx hb dX4_divide_68 (by decide) (fun _ => ?_) (fun c_ => absurd c_ (by decide))
      refine lv_aload_n hx hb dX4_divide_82 rfl (lv_at hl 2 rfl) ?_
      refine lv_aload_n hx hb dX4_divide_83 rfl (lv_at hl 2 rfl) ?_
      refine va_get (D := (dC, dI)) (ci := 1) (v := .long (((2 : Int64) * a.2.2.2.2.2.2.2.2.2.2.2.2) + ((j_lshr p0 k) &&& (1 : Int64)))) (C := RX4) (T := TX4) (N := 13) hx hb hts inX4 hown hK hP 0 rfl rfl 12 (by decide) (hts _ qw_256) (fun _ h9 => h9) rfl dX4_divide_84 ?_
      refine lv_lload_n hx hb dX4_divide_87 rfl (lv_at hl 4 rfl) ?_
      refine lv_lsub hx hb dX4_divide_88 ?_
      refine va_put (D := (dC, dI)) (ci := 1) (v := .long ((((2 : Int64) * a.2.2.2.2.2.2.2.2.2.2.2.2) + ((j_lshr p0 k) &&& (1 : Int64))) - p1)) (ty := .long) (C := RX4) (T := TX4) (N := 13) hx hb hts inX4 tyX4 tyX4_ok nmX4 hown hK hP hD hS 0 rfl rfl 12 (by decide) (hts _ qw_256) (fun _ h9 => h9) rfl (by decide +kernel) rfl rfl (Nat.le_of_ble_eq_true rfl) dX4_divide_89 (fun H locs hP hD hS => ?_)
      have hP : va_P (dC, dI) vwCl (Wm g0 g1 g2 cB cC (sm12 (sm11 a ((2 : Int64) * a.2.2.2.2.2.2.2.2.2.2.2.1)) ((((2 : Int64) * a.2.2.2.2.2.2.2.2.2.2.2.2) + ((j_lshr p0 k) &&& (1 : Int64))) - p1))) H := hP
      have hD : va_D A (Wm g0 g1 g2 cB cC (sm12 (sm11 a ((2 : Int64) * a.2.2.2.2.2.2.2.2.2.2.2.1)) ((((2 : Int64) * a.2.2.2.2.2.2.2.2.2.2.2.2) + ((j_lshr p0 k) &&& (1 : Int64))) - p1))) := hD
      refine lv_aload_n hx hb dX4_divide_92 rfl (lv_at hl 2 rfl) ?_
      refine lv_aload_n hx hb dX4_divide_93 rfl (lv_at hl 2 rfl) ?_
      refine va_get (D := (dC, dI)) (ci := 1) (v := .long ((2 : Int64) * a.2.2.2.2.2.2.2.2.2.2.2.1)) (C := RX4) (T := TX4) (N := 13) hx hb hts inX4 hown hK hP 0 rfl rfl 11 (by decide) (hts _ qw_257) (fun _ h9 => h9) rfl dX4_divide_94 ?_
      refine lv_lconst (v := (1 : Int64)) hx hb dX4_divide_97 (by decide) ?_
      refine lv_ladd hx hb dX4_divide_98 ?_
      refine va_put (D := (dC, dI)) (ci := 1) (v := .long (((2 : Int64) * a.2.2.2.2.2.2.2.2.2.2.2.1) + (1 : Int64))) (ty := .long) (C := RX4) (T := TX4) (N := 13) hx hb hts inX4 tyX4 tyX4_ok nmX4 hown hK hP hD hS 0 rfl rfl 11 (by decide) (hts _ qw_257) (fun _ h9 => h9) rfl (by decide +kernel) rfl rfl (Nat.le_of_ble_eq_true rfl) dX4_divide_99 (fun H locs hP hD hS => ?_)
      have hP : va_P (dC, dI) vwCl (Wm g0 g1 g2 cB cC (sm12 (sm11 a (((2 : Int64) * a.2.2.2.2.2.2.2.2.2.2.2.1) + (1 : Int64))) ((((2 : Int64) * a.2.2.2.2.2.2.2.2.2.2.2.2) + ((j_lshr p0 k) &&& (1 : Int64))) - p1))) H := hP
      have hD : va_D A (Wm g0 g1 g2 cB cC (sm12 (sm11 a (((2 : Int64) * a.2.2.2.2.2.2.2.2.2.2.2.1) + (1 : Int64))) ((((2 : Int64) * a.2.2.2.2.2.2.2.2.2.2.2.2) + ((j_lshr p0 k) &&& (1 : Int64))) - p1))) := hD
      refine lv_iinc (v := (k + (-1 : Int32))) (lv' := [(5, .int (k + (-1 : Int32))), (6, .int (1 : Int32)), (0, .ref g0), (1, .long p0), (3, .long p1)]) hx hb dX4_divide_102 hl (k := 1) rfl rfl (by decide) rfl (fun ls hl => ?_)
      refine lv_goto (tgt := 14) hx hb dX4_divide_105 (by decide) ?_
      have hs : st_X4_divide p0 p1 k a = (sm12 (sm11 a (((2 : Int64) * a.2.2.2.2.2.2.2.2.2.2.2.1) + (1 : Int64))) ((((2 : Int64) * a.2.2.2.2.2.2.2.2.2.2.2.2) + ((j_lshr p0 k) &&& (1 : Int64))) - p1)) := by unfold st_X4_divide; rw [if_neg c1]
      exact ih (by omega) _ (sm12 (sm11 a (((2 : Int64) * a.2.2.2.2.2.2.2.2.2.2.2.1) + (1 : Int64))) ((((2 : Int64) * a.2.2.2.2.2.2.2.2.2.2.2.2) + ((j_lshr p0 k) &&& (1 : Int64))) - p1)) _ _ ls (by rw [hk2]) (by rw [← hs]; exact hF) (lv_sub hl [0, 2, 3, 4] rfl) hP hD hS
theorem gx_X4_divide (u : SmT) (p0 : Int64) (p1 : Int64) : ∃ v : SmT, v = (it_X4_divide p0 p1 64 (63 : Int32) (sm12 (sm11 u (0 : Int64)) (0 : Int64))) := ⟨_, rfl⟩
noncomputable def gi_X4_divide (u : SmT) (p0 : Int64) (p1 : Int64) : SmT := Classical.choose (gx_X4_divide u p0 p1)
theorem gs_X4_divide (u : SmT) (p0 : Int64) (p1 : Int64) : gi_X4_divide u p0 p1 = (it_X4_divide p0 p1 64 (63 : Int32) (sm12 (sm11 u (0 : Int64)) (0 : Int64))) := Classical.choose_spec (gx_X4_divide u p0 p1)
theorem ge_X4_divide (u : SmT) (p0 : Int64) (p1 : Int64) : (it_X4_divide p0 p1 64 (63 : Int32) (sm12 (sm11 u (0 : Int64)) (0 : Int64))) = gi_X4_divide u p0 p1 := by rw [gs_X4_divide]
noncomputable def f_X4_divide (u : SmT) (p0 : Int64) (p1 : Int64) : SmT := (gi_X4_divide u p0 p1)
set_option maxHeartbeats 4000000 in
set_option maxRecDepth 100000 in
theorem mt_X4_divide (l : Launch) (dC : Nat → ClassId) (dI : Nat → Nat → Nat) (g0 g1 g2 : Nat) (cB cC : ClassId) (sz : Nat) (u : SmT) (p0 : Int64) (p1 : Int64) : Met l yX4_divide wsX4_divide ({ frames := 1, cells := 0, slots := 0, locals := 23 }) (wr_P [.ref g0, .long p0, .long p1] (dC, dI) vwCl (Wm g0 g1 g2 cB cC u) [(cB, .long), (cC, .long)] sz) (va_Qv (fun v => v = f_X4_divide u p0 p1) (wr_B (dC, dI) vwCl [(cB, .long), (cC, .long)] (va_A (Wm g0 g1 g2 cB cC u) sz) (Wm g0 g1 g2 cB cC)) (va_A (Wm g0 g1 g2 cB cC u) sz)) 0 0 (va_A (Wm g0 g1 g2 cB cC u) sz) := by
  refine Met.ofW (cc := cX4_divide) (maxL := 7) (ret := none) (by decide) rfl ?_
  intro p e s m args below meth c s₁ B hml hv
  obtain ⟨rfl, hsz, hP, hK, hD0⟩ := hv
  have hx := B.exec
  have hb := B.bytes
  have hr := B.returns
  have hts0 := atoms_spec (ws := wsX4_divide) B.pre
  have hts := fun (w : Cond) (h : w ∈ lw_G) => hts0 w (List.mem_cons_of_mem _ h)
  have hown : s.vm.findClass RX4 = some m.cls := findClass_of_methodNamed B.named
  have hlocks := B.notSynchronized
  subst hsz
  have hD := hD0.self (sz := s.heap.size)
  generalize hAe : va_A (Wm g0 g1 g2 cB cC u) s.heap.size = A at hD ⊢
  have hA : ∀ q : Nat, s.heap.size ≤ q → A q := fun q h => by rw [← hAe]; exact Or.inr h
  have hS : va_S A s.heap s.heap [] := va_S.rf
  have hl := lv_entry ([.ref g0, .long p0, .long p1]) (n := 7) (Nat.le_of_ble_eq_true rfl)
  rw [lg_entry_eq]
  generalize (lg_sl ([.ref g0, .long p0, .long p1]) ++ List.replicate (7 - (lg_sl ([.ref g0, .long p0, .long p1])).length) Slot.unset).toArray = ls at hl ⊢
  have hl : lv_has ls 7 [(0, .ref g0), (1, .long p0), (3, .long p1)] := hl
  refine lv_aload_n hx hb dX4_divide_0 rfl (lv_at hl 0 rfl) ?_
  refine lv_lconst (v := (0 : Int64)) hx hb dX4_divide_1 (by decide) ?_
  refine va_put (D := (dC, dI)) (ci := 1) (v := .long (0 : Int64)) (ty := .long) (C := RX4) (T := TX4) (N := 13) hx hb hts inX4 tyX4 tyX4_ok nmX4 hown hK hP hD hS 0 rfl rfl 11 (by decide) (hts _ qw_257) (fun _ h9 => h9) rfl (by decide +kernel) rfl rfl (Nat.le_of_ble_eq_true rfl) dX4_divide_2 (fun H locs hP hD hS => ?_)
  have hP : va_P (dC, dI) vwCl (Wm g0 g1 g2 cB cC (sm11 u (0 : Int64))) H := hP
  have hD : va_D A (Wm g0 g1 g2 cB cC (sm11 u (0 : Int64))) := hD
  refine lv_aload_n hx hb dX4_divide_5 rfl (lv_at hl 0 rfl) ?_
  refine lv_lconst (v := (0 : Int64)) hx hb dX4_divide_6 (by decide) ?_
  refine va_put (D := (dC, dI)) (ci := 1) (v := .long (0 : Int64)) (ty := .long) (C := RX4) (T := TX4) (N := 13) hx hb hts inX4 tyX4 tyX4_ok nmX4 hown hK hP hD hS 0 rfl rfl 12 (by decide) (hts _ qw_256) (fun _ h9 => h9) rfl (by decide +kernel) rfl rfl (Nat.le_of_ble_eq_true rfl) dX4_divide_7 (fun H locs hP hD hS => ?_)
  have hP : va_P (dC, dI) vwCl (Wm g0 g1 g2 cB cC (sm12 (sm11 u (0 : Int64)) (0 : Int64))) H := hP
  have hD : va_D A (Wm g0 g1 g2 cB cC (sm12 (sm11 u (0 : Int64)) (0 : Int64))) := hD
  refine lv_bipush (v := (63 : Int32)) hx hb dX4_divide_10 (by decide) ?_
  refine lv_istore (lv' := [(5, .int (63 : Int32)), (0, .ref g0), (1, .long p0), (3, .long p1)]) hx hb dX4_divide_12 hl (by decide) rfl (fun ls hl => ?_)
  refine lp_X4_divide hx hb hml hown hts dC dI g0 g1 g2 cB cC A s.heap hK p0 p1  (gi_X4_divide u p0 p1) (fun k H locs ls hl hP hD hS => ?_) 64 (by decide) _ (sm12 (sm11 u (0 : Int64)) (0 : Int64)) H locs ls (by decide) (ge_X4_divide u p0 p1) (lv_sub hl [0, 1, 2, 3] rfl) hP hD hS
  exact W.vret hx hb hr (fun t ht hW => ⟨⟨gi_X4_divide u p0 p1, rfl, by unfold f_X4_divide; rfl, by rw [ht]; exact hP, va_K.moved hW.alike hK, hD⟩, hS.F ht⟩) hS.2.2 dX4_divide_108
