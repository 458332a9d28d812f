theorem lw_tx {s : State} {b : Nat} (hts9 : ∀ w ∈ lw_tbl, w.before #[Value.ref b] s = true) (hgv : (Jvm.Cond.and given_1 narrow_1).before #[Value.ref b] s = true) : tx_F (fun q : Nat => s.heap.size ≤ q) s := by
  have hs := flat_of_before _ hgv
  have z0 : vx_Zq "java/lang/Throwable" "UNASSIGNED_STACK" "[Ljava/lang/StackTraceElement;" (fun q : Nat => s.heap.size ≤ q) s s.heap := vx_Zqof (hts9 (.laysStatic "java/lang/Throwable" "UNASSIGNED_STACK" "[Ljava/lang/StackTraceElement;") (List.mem_of_getElem? (i := 158) (by decide +kernel))) (hts9 (.initialized "java/lang/Throwable") (List.mem_of_getElem? (i := 50) (by decide +kernel))) (hs (.isRef (.static "java/lang/Throwable" "UNASSIGNED_STACK" "[Ljava/lang/StackTraceElement;")) (by decide +kernel)) (fun a h => Nat.not_le.mpr h)
  have z1 : vx_Zq "java/lang/Throwable" "SUPPRESSED_SENTINEL" "Ljava/util/List;" (fun q : Nat => s.heap.size ≤ q) s s.heap := vx_Zqof (hts9 (.laysStatic "java/lang/Throwable" "SUPPRESSED_SENTINEL" "Ljava/util/List;") (List.mem_of_getElem? (i := 160) (by decide +kernel))) (hts9 (.initialized "java/lang/Throwable") (List.mem_of_getElem? (i := 50) (by decide +kernel))) (hs (.isRef (.static "java/lang/Throwable" "SUPPRESSED_SENTINEL" "Ljava/util/List;")) (by decide +kernel)) (fun a h => Nat.not_le.mpr h)
  have c0 : va_Nw (.castable "java/lang/IndexOutOfBoundsException" "java/lang/IndexOutOfBoundsException") s := va_Nw.of rfl (hts9 _ (List.mem_of_getElem? (i := 133) (by decide +kernel)))
  have c1 : va_Nw (.castable "java/lang/IllegalArgumentException" "java/lang/IllegalArgumentException") s := va_Nw.of rfl (hts9 _ (List.mem_of_getElem? (i := 220) (by decide +kernel)))
  have c2 : va_Nw (.castable "java/lang/IllegalStateException" "java/lang/IllegalStateException") s := va_Nw.of rfl (hts9 _ (List.mem_of_getElem? (i := 434) (by decide +kernel)))
  have d0 : va_Nw (.declares ⟨"java/lang/RuntimeException", "<init>", "(Ljava/lang/String;)V"⟩) s := va_Nw.of rfl (hts9 _ (List.mem_of_getElem? (i := 135) (by decide +kernel)))
  have d1 : va_Nw (.declares ⟨"java/lang/Exception", "<init>", "(Ljava/lang/String;)V"⟩) s := va_Nw.of rfl (hts9 _ (List.mem_of_getElem? (i := 137) (by decide +kernel)))
  have d2 : va_Nw (.declares ⟨"java/lang/Throwable", "<init>", "(Ljava/lang/String;)V"⟩) s := va_Nw.of rfl (hts9 _ (List.mem_of_getElem? (i := 139) (by decide +kernel)))
  obtain ⟨a0, -, -, -, e0, -⟩ := Cond.exactly_spec (hs (.exactly (.string "IntegerCore" 23) "java/lang/String") (by decide +kernel))
  have s0 : vk_R RX3 23 "there is no such register" a0 s := vk_R.of (hts9 (.stringRef "IntegerCore" 23 "there is no such register") (List.mem_of_getElem? (i := 172) (by decide +kernel))) e0
  obtain ⟨a1, -, -, -, e1, -⟩ := Cond.exactly_spec (hs (.exactly (.string "IntegerCore" 40) "java/lang/String") (by decide +kernel))
  have s1 : vk_R RX3 40 "an instruction is 2 or 4 bytes long" a1 s := vk_R.of (hts9 (.stringRef "IntegerCore" 40 "an instruction is 2 or 4 bytes long") (List.mem_of_getElem? (i := 227) (by decide +kernel))) e1
  obtain ⟨a2, -, -, -, e2, -⟩ := Cond.exactly_spec (hs (.exactly (.string "IntegerCore" 134) "java/lang/String") (by decide +kernel))
  have s2 : vk_R RX3 134 "nothing is under way" a2 s := vk_R.of (hts9 (.stringRef "IntegerCore" 134 "nothing is under way") (List.mem_of_getElem? (i := 441) (by decide +kernel))) e2
  exact ⟨z0, z1, c0, c1, c2, d0, d1, d2, ⟨a0, s0⟩, ⟨a1, s1⟩, ⟨a2, s2⟩⟩
set_option maxHeartbeats 4000000 in
set_option maxRecDepth 100000 in
theorem whole_start {p : Program} {e : Env} {s : State} {m : MethodId} {below : List Frame} {meth : Method} {c : Code} (l : Launch) (hl9 : l.stackTraces = false) {b L : Nat} {xs : Nat → Int32} (hL : L ≤ 2048) (C0 : lw_At p s m meth c b L xs) : W p l e room_1 s m #[Value.ref b] below meth c s.heap [] 0 0 (lw_Z below #[Value.ref b] s) (entryFrame m ([Value.ref b] : List Value).toArray 8) := by
  obtain ⟨hx, hb, hr, hml, hown, hts9, hX, hbl, hlocks, hgv⟩ := id C0
  have hts : ∀ w ∈ lw_G, w.before #[Value.ref b] s = true := fun w h => hts9 w (List.mem_filter.mp h).1
  have hT := lw_tx hts9 hgv
  have hA : ∀ q : Nat, s.heap.size ≤ q → (fun q : Nat => s.heap.size ≤ q) q := fun _ h => h
  have hown : s.vm.findClass RL = some m.cls := hown
  obtain ⟨c0, iS0, hKn0⟩ := u_known (C := RX3) (T := TX3) (N := 10) (n := 10) hts inX3 (hts _ qw_458)
  obtain ⟨c1, iS1, hKn1⟩ := u_known (C := RX4) (T := TX4) (N := 13) (n := 13) hts inX4 (hts _ qw_459)
  obtain ⟨dC, dI, hKc⟩ : ∃ (dC : Nat → ClassId) (dI : Nat → Nat → Nat), ∀ (k : Nat) (q : vw_C), vwCl[k]? = some q → u_Kn s q.1 q.2.1 q.2.2 (dC k) (dI k) := by
    refine ⟨fun k => if k = 0 then c0 else c1, fun k => if k = 0 then iS0 else iS1, ?_⟩
    intro k q hq
    match k, hq with
    | 0, hq => cases hq; exact hKn0
    | 1, hq => cases hq; exact hKn1
    | k + 2, hq => simp [vwCl] at hq
  have hS : va_S (fun q : Nat => s.heap.size ≤ q) s.heap s.heap [] := va_S.rf
  have hK : va_K (dC, dI) vwCl [] s := ⟨hKc, fun k q h => by simp at h⟩
  have hP : va_P (dC, dI) vwCl [] s.heap := fun k q h => by simp at h
  have hD : va_D (fun q : Nat => s.heap.size ≤ q) [] := ⟨fun i j p q h => by simp at h, fun k q h => by simp at h⟩
  have hl := lv_entry ([.ref b]) (n := 8) (Nat.le_of_ble_eq_true rfl)
  rw [lg_entry_eq]
  generalize (lg_sl ([.ref b]) ++ List.replicate (8 - (lg_sl ([.ref b])).length) Slot.unset).toArray = ls at hl ⊢
  have hl : lv_has ls 8 [(0, .ref b)] := hl
  refine va_new (ci := 0) (fs := [.null, .long 0, .long 0, .int 0, .int 0, .long 0, .int 0, .long 0, .int 0, .int 0]) (C := RX3) (T := TX3) (N := 10) hx hb hts inX3 tyX3 tyX3_ok hown (hts _ qw_460) (hts _ qw_458) (hts _ qw_48) hK hP hD hS hA rfl (fun j hj => by rcases (show j = 0 ∨ j = 1 ∨ j = 2 ∨ j = 3 ∨ j = 4 ∨ j = 5 ∨ j = 6 ∨ j = 7 ∨ j = 8 ∨ j = 9 by omega) with rfl | rfl | rfl | rfl | rfl | rfl | rfl | rfl | rfl | rfl <;> rfl) (Nat.le_of_ble_eq_true rfl) (Nat.le_of_ble_eq_true rfl) dL_law_0 (fun h0 H hP hD hS => ?_)
  have hP : va_P (dC, dI) vwCl [(h0, .inr (0, [.null, .long 0, .long 0, .int 0, .int 0, .long 0, .int 0, .long 0, .int 0, .int 0]))] H := hP
  have hD : va_D (fun q : Nat => s.heap.size ≤ q) [(h0, .inr (0, [.null, .long 0, .long 0, .int 0, .int 0, .long 0, .int 0, .long 0, .int 0, .int 0]))] := hD
  refine W.widen (k := 1) (n := 10) (by omega) (by omega) ?_
  refine lv_dup hx hb dL_law_3 rfl ?_
  have hPc := hP.sub (ws' := [(h0, .inr (0, [.null, .long 0, .long 0, .int 0, .int 0, .long 0, .int 0, .long 0, .int 0, .int 0]))]) [0] rfl
  have hDc := hD.sub (ws' := [(h0, .inr (0, [.null, .long 0, .long 0, .int 0, .int 0, .long 0, .int 0, .long 0, .int 0, .int 0]))]) [0] (by decide) rfl
  have hKc := hK.sub (tys' := []) [] rfl
  have hFc := va_free (wc := [(h0, .inr (0, [.null, .long 0, .long 0, .int 0, .int 0, .long 0, .int 0, .long 0, .int 0, .int 0]))]) hD hS hA [0] rfl
  refine va_callv (va_runI (As := []) (rest := [.ref h0]) ⟨hx, hb, hml, hown, hts⟩ (mt_X3_init l dC dI h0 H.size) (cwI 0 hts gL_31_X3_init rfl rfl rfl (hts _ qw_48) (hts _ qw_461) (hts _ qw_463) rfl (by decide +kernel) ⟨(Nat.le_of_ble_eq_true rfl), (Nat.le_of_ble_eq_true rfl)⟩) (wr_S (As := [.ref h0]) hKc hPc hDc) rfl rfl hl.1 rfl (lv_room (Nat.le_of_ble_eq_true rfl)) dL_law_4 ⟨(Nat.le_of_ble_eq_true rfl), (Nat.le_of_ble_eq_true rfl)⟩) hS (fun q _ h => hFc q h) hFc (fun u_ t H1 locs ht hvm hw hB hz1 hk1 hS => ?_)
  obtain ⟨h1, cA, hP1, hK1, hD1⟩ := hB
  rw [ht] at hP1
  have hK1 := va_K.moved hvm.symm hK1
  obtain ⟨hP, hD⟩ := va_join (wr := []) (w1 := (Wc h0 h1 cA uc0)) hP hD [0] [] rfl rfl (by decide) (by decide) hk1 hFc hP1 hD1
  have hK := hK.app hK1
  generalize H1 = H at hP hS ⊢
  refine W.widen (k := 2) (n := 42) (by omega) (by omega) ?_
  refine lv_astore_n (lv' := [(1, .ref h0), (0, .ref b)]) hx hb dL_law_7 rfl hl (by decide) rfl (fun ls hl => ?_)
  have hP : va_P (dC, dI) vwCl (Wc h0 h1 cA uc0) H := hP
  have hD : va_D (fun q : Nat => s.heap.size ≤ q) (Wc h0 h1 cA uc0) := hD
  have hK : va_K (dC, dI) vwCl [(cA, .long)] s := hK
  refine va_new (ci := 1) (fs := [.int 0, .null, .long 0, .long 0, .int 0, .int 0, .long 0, .long 0, .int 0, .int 0, .null, .long 0, .long 0]) (C := RX4) (T := TX4) (N := 13) hx hb hts inX4 tyX4 tyX4_ok hown (hts _ qw_464) (hts _ qw_459) (hts _ qw_251) hK hP hD hS hA rfl (fun j hj => by rcases (show j = 0 ∨ j = 1 ∨ j = 2 ∨ j = 3 ∨ j = 4 ∨ j = 5 ∨ j = 6 ∨ j = 7 ∨ j = 8 ∨ j = 9 ∨ j = 10 ∨ j = 11 ∨ j = 12 by omega) with rfl | rfl | rfl | rfl | rfl | rfl | rfl | rfl | rfl | rfl | rfl | rfl | rfl <;> rfl) (Nat.le_of_ble_eq_true rfl) (Nat.le_of_ble_eq_true rfl) dL_law_8 (fun g0 H hP hD hS => ?_)
  have hP : va_P (dC, dI) vwCl ((Wc h0 h1 cA uc0) ++ [(g0, .inr (1, [.int 0, .null, .long 0, .long 0, .int 0, .int 0, .long 0, .long 0, .int 0, .int 0, .null, .long 0, .long 0]))]) H := hP
  have hD : va_D (fun q : Nat => s.heap.size ≤ q) ((Wc h0 h1 cA uc0) ++ [(g0, .inr (1, [.int 0, .null, .long 0, .long 0, .int 0, .int 0, .long 0, .long 0, .int 0, .int 0, .null, .long 0, .long 0]))]) := hD
  refine W.widen (k := 3) (n := 55) (by omega) (by omega) ?_
  refine lv_dup hx hb dL_law_11 rfl ?_
  have hPc := hP.sub (ws' := [(g0, .inr (1, [.int 0, .null, .long 0, .long 0, .int 0, .int 0, .long 0, .long 0, .int 0, .int 0, .null, .long 0, .long 0]))]) [2] rfl
  have hDc := hD.sub (ws' := [(g0, .inr (1, [.int 0, .null, .long 0, .long 0, .int 0, .int 0, .long 0, .long 0, .int 0, .int 0, .null, .long 0, .long 0]))]) [2] (by decide) rfl
  have hKc := hK.sub (tys' := []) [] rfl
  have hFc := va_free (wc := [(g0, .inr (1, [.int 0, .null, .long 0, .long 0, .int 0, .int 0, .long 0, .long 0, .int 0, .int 0, .null, .long 0, .long 0]))]) hD hS hA [2] rfl
  refine va_callv (va_runI (As := []) (rest := [.ref g0]) ⟨hx, hb, hml, hown, hts⟩ (mt_X4_init l dC dI g0 H.size) (cwI 0 hts gL_34_X4_init rfl rfl rfl (hts _ qw_251) (hts _ qw_465) (hts _ qw_467) rfl (by decide +kernel) ⟨(Nat.le_of_ble_eq_true rfl), (Nat.le_of_ble_eq_true rfl)⟩) (wr_S (As := [.ref g0]) hKc hPc hDc) rfl rfl hl.1 rfl (lv_room (Nat.le_of_ble_eq_true rfl)) dL_law_12 ⟨(Nat.le_of_ble_eq_true rfl), (Nat.le_of_ble_eq_true rfl)⟩) hS (fun q _ h => hFc q h) hFc (fun u_ t H1 locs ht hvm hw hB hz1 hk1 hS => ?_)
  obtain ⟨g1, g2, cB, cC, hP1, hK1, hD1⟩ := hB
  rw [ht] at hP1
  have hK1 := va_K.moved hvm.symm hK1
  obtain ⟨hP, hD⟩ := va_join (wr := (Wc h0 h1 cA uc0)) (w1 := (Wm g0 g1 g2 cB cC um0)) hP hD [2] [0, 1] rfl rfl (by decide) (by decide) hk1 hFc hP1 hD1
  have hK := hK.app hK1
  generalize H1 = H at hP hS ⊢
  refine W.widen (k := 5) (n := 92) (by omega) (by omega) ?_
  refine lv_astore_n (lv' := [(2, .ref g0), (1, .ref h0), (0, .ref b)]) hx hb dL_law_15 rfl hl (by decide) rfl (fun ls hl => ?_)
  have hP : va_P (dC, dI) vwCl ((Wc h0 h1 cA uc0) ++ (Wm g0 g1 g2 cB cC um0)) H := hP
  have hD : va_D (fun q : Nat => s.heap.size ≤ q) ((Wc h0 h1 cA uc0) ++ (Wm g0 g1 g2 cB cC um0)) := hD
  have hK : va_K (dC, dI) vwCl [(cA, .long), (cB, .long), (cC, .long)] s := hK
  refine lv_iconst (v := (1 : Int32)) hx hb dL_law_16 (by decide) ?_
  refine va_newa (atype := .long) (N' := 1) (a0 := (1, .inr (.inl (fun _ => 0)))) (ty := .long) (n := (1 : Int32)) hx hb (hts _ qw_390) rfl hK hP hD hS hA (fun _ => rfl) (by decide) (by decide) (by decide) (Nat.le_of_ble_eq_true rfl) (Nat.le_of_ble_eq_true rfl) dL_law_17 (fun o0 cO H hK hP hD hS => ?_)
  refine W.widen (k := 6 + 0) (n := 93 + 6 * 0) (by omega) (by omega) ?_
  refine lv_astore_n (lv' := [(3, .ref o0), (2, .ref g0), (1, .ref h0), (0, .ref b)]) hx hb dL_law_19 rfl hl (by decide) rfl (fun ls hl => ?_)
  refine lv_iconst (v := (0 : Int32)) hx hb dL_law_20 (by decide) ?_
  refine lv_istore (lv' := [(4, .int (0 : Int32)), (3, .ref o0), (2, .ref g0), (1, .ref h0), (0, .ref b)]) hx hb dL_law_21 hl (by decide) rfl (fun ls hl => ?_)
  have hP : va_P (dC, dI) vwCl (Wz h0 h1 cA g0 g1 g2 cB cC o0 cO uc0 um0 (fun _ => 0)) H := hP
  have hD : va_D (fun q : Nat => s.heap.size ≤ q) (Wz h0 h1 cA g0 g1 g2 cB cC o0 cO uc0 um0 (fun _ => 0)) := hD
  have hK : va_K (dC, dI) vwCl [(cA, .long), (cB, .long), (cC, .long), (cO, .long)] s := hK
  have hl : lv_has ls 8 [(4, .int (nI (4 * 0))), (3, .ref o0), (2, .ref g0), (1, .ref h0), (0, .ref b)] := hl
  exact lw_loop ⟨hx, hb, hml, hown, hts, hX, hbl, hl9, hT, hK⟩ hr hlocks hL (L / 4 + 1) 0 uc0 um0 _ H _ ls (by omega) (by omega) sim_0 hl hP hD hS
