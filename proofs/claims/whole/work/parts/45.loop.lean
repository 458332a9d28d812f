theorem lw_go {k L : Nat} (hk : 4 * k ≤ 2048) (hL : L ≤ 2048) (c : ¬ (Int32.ofNat L - (4 : Int32) < nI (4 * k))) : 4 * k + 4 ≤ L := by
  have e1 : (Int32.ofNat L - (4 : Int32)).toInt = (L : Int) - (4 : Nat) := pk_sub_toInt (a := L) (b := 4) (by omega) (by omega)
  have e2 : (nI (4 * k)).toInt = ((4 * k : Nat) : Int) := nI_toInt (by omega)
  rw [Int32.lt_iff_toInt_lt, e1, e2] at c
  omega
theorem lw_in_script {k L j : Nat} (hL : L ≤ 2048) (h : 4 * k + 4 ≤ L) (hj : j < 4) : vp_in (nI (4 * k) + nI j) L := by
  rw [nI_add]; exact vp_in_nI (by omega) (by omega)
theorem lw_in_script0 {k L : Nat} (hL : L ≤ 2048) (h : 4 * k + 4 ≤ L) : vp_in (nI (4 * k)) L := vp_in_nI (by omega) (by omega)
set_option maxHeartbeats 4000000 in
set_option maxRecDepth 100000 in
theorem lw_loop {p : Program} {l : Launch} {e : Env} {s : State} {m : MethodId} {below : List Frame} {meth : Method} {c : Code} {b L : Nat} {xs : Nat → Int32} {dC : Nat → ClassId} {dI : Nat → Nat → Nat} {h0 h1 g0 g1 g2 o0 : Nat} {cA cB cC cO : ClassId} (C9 : lw_C p l s m c b L xs dC dI cA cB cC cO) (hr : meth.sig.returnType = ret) (hlocks : meth.locks = false) (hL : L ≤ 2048) : ∀ (n k : Nat) (u : ScT) (v : SmT) (z : Nat → Int64) (H : Heap) (locs : List Loc) (ls : Array Slot), L < 4 * k + 4 + 4 * n → 4 * k ≤ 2048 → Sim u v → lv_has ls 8 [(4, .int (nI (4 * k))), (3, .ref o0), (2, .ref g0), (1, .ref h0), (0, .ref b)] → va_P (dC, dI) vwCl (Wz h0 h1 cA g0 g1 g2 cB cC o0 cO u v z) H → va_D (fun q : Nat => s.heap.size ≤ q) (Wz h0 h1 cA g0 g1 g2 cB cC o0 cO u v z) → va_S (fun q : Nat => s.heap.size ≤ q) s.heap H locs → W p l e room_1 s m #[Value.ref b] below meth c H locs (6 + k) (93 + 6 * k) (lw_Z below #[Value.ref b] s) (F0 m 23 ls []) := by
  obtain ⟨hx, hb, hml, hown, hts, hX, hbl, hl9, hT, hK⟩ := id C9
  have hbA : ¬ (fun q : Nat => s.heap.size ≤ q) b := Nat.not_le.mpr hbl
  intro n
  induction n with
  | zero =>
    intro k u v z H locs ls hn hk hSim hl hP hD hS
    refine lv_iload hx hb dL_law_23 (lv_at hl 0 rfl) ?_
    refine lv_aload_n hx hb dL_law_25 rfl (lv_at hl 4 rfl) ?_
    refine va_slen hx hb hX hbl hbA hS dL_law_26 ?_
    refine lv_iconst (v := (4 : Int32)) hx hb dL_law_27 (by decide) ?_
    refine lv_isub hx hb dL_law_28 ?_
    refine lv_icmp_gt (tgt := 518) hx hb dL_law_29 (by decide) (fun c1 => ?_) (fun c1 => ?_)
    · refine lv_iconst (v := (1 : Int32)) hx hb dL_law_518 (by decide) ?_
      refine va_forget (fun q hq => hS.2.2 q hq) ?_
      refine W.widen (k := 1034) (n := 8309) (by omega) (by omega) ?_
      exact lw_ret hx hb hr hlocks dL_law_519
    · have h4 := lw_go hk hL c1
      omega
  | succ n ih =>
    intro k u v z H locs ls hn hk hSim hl hP hD hS
    refine lv_iload hx hb dL_law_23 (lv_at hl 0 rfl) ?_
    refine lv_aload_n hx hb dL_law_25 rfl (lv_at hl 4 rfl) ?_
    refine va_slen hx hb hX hbl hbA hS dL_law_26 ?_
    refine lv_iconst (v := (4 : Int32)) hx hb dL_law_27 (by decide) ?_
    refine lv_isub hx hb dL_law_28 ?_
    refine lv_icmp_gt (tgt := 518) hx hb dL_law_29 (by decide) (fun c1 => ?_) (fun c1 => ?_)
    · refine lv_iconst (v := (1 : Int32)) hx hb dL_law_518 (by decide) ?_
      refine va_forget (fun q hq => hS.2.2 q hq) ?_
      refine W.widen (k := 1034) (n := 8309) (by omega) (by omega) ?_
      exact lw_ret hx hb hr hlocks dL_law_519
    · have h4 := lw_go hk hL c1
      refine lv_aload_n hx hb dL_law_32 rfl (lv_at hl 4 rfl) ?_
      refine lv_iload hx hb dL_law_33 (lv_at hl 0 rfl) ?_
      refine va_sld hx hb hX hbl hbA hS (lw_in_script0 hL h4) dL_law_35 ?_
      refine lv_bipush (v := (7 : Int32)) hx hb dL_law_36 (by decide) ?_
      refine lv_iand hx hb dL_law_38 ?_
      have K9 : ∀ (u' : ScT) (v' : SmT) (z' : Nat → Int64) (H' : Heap) (locs' : List Loc) (ls' : Array Slot), Sim u' v' → lv_has ls' 8 [(4, .int (nI (4 * k))), (3, .ref o0), (2, .ref g0), (1, .ref h0), (0, .ref b)] → va_P (dC, dI) vwCl (Wz h0 h1 cA g0 g1 g2 cB cC o0 cO u' v' z') H' → va_D (fun q : Nat => s.heap.size ≤ q) (Wz h0 h1 cA g0 g1 g2 cB cC o0 cO u' v' z') → va_S (fun q : Nat => s.heap.size ≤ q) s.heap H' locs' → W p l e room_1 s m #[Value.ref b] below meth c H' locs' (6 + k + 1) (93 + 6 * k + 6) (lw_Z below #[Value.ref b] s) (F0 m 512 ls' []) := by
        intro u' v' z' H' locs' ls' hSim hl hP hD hS
        have e4 : nI (4 * k) + (4 : Int32) = nI (4 * (k + 1)) := by rw [show (4 : Int32) = nI 4 from rfl, nI_add]; rfl
        refine lv_iinc (v := nI (4 * (k + 1))) (lv' := [(4, .int (nI (4 * (k + 1)))), (3, .ref o0), (2, .ref g0), (1, .ref h0), (0, .ref b)]) hx hb dL_law_512 hl (k := 0) rfl e4 (by decide) rfl (fun ls hl => ?_)
        refine lv_goto (tgt := 23) hx hb dL_law_515 (by decide) ?_
        refine W.widen (k := 6 + (k + 1)) (n := 93 + 6 * (k + 1)) (by omega) (by omega) ?_
        exact ih (k + 1) u' v' z' H' locs' ls (by omega) (by omega) hSim hl hP hD hS
      have hroom : 6 + k + 1 ≤ room_1.cells ∧ 93 + 6 * k + 6 ≤ room_1.slots := ⟨show 6 + k + 1 ≤ 1034 by omega, show 93 + 6 * k + 6 ≤ 8309 by omega⟩
      have hi0 := lw_in_script0 (k := k) hL h4
      have hi1 : vp_in (nI (4 * k) + (1 : Int32)) L := lw_in_script (j := 1) hL h4 (by decide)
      have hi2 : vp_in (nI (4 * k) + (2 : Int32)) L := lw_in_script (j := 2) hL h4 (by decide)
      have hi3 : vp_in (nI (4 * k) + (3 : Int32)) L := lw_in_script (j := 3) hL h4 (by decide)
      obtain ⟨j, hj, ej⟩ := pk_andE (xs (nI (4 * k)).toNatClampNeg) (m := 7) 3 (by decide)
      rw [ej]
      rcases (show j = 0 ∨ j = 1 ∨ j = 2 ∨ j = 3 ∨ j = 4 ∨ j = 5 ∨ j = 6 ∨ j = 7 by omega) with rfl | rfl | rfl | rfl | rfl | rfl | rfl | rfl
      · refine lv_tableIn (tgt := 84) (off := 45) hx hb dL_law_39 (by decide) (by decide) (by decide +kernel) (by decide) ?_
        exact lw_case0 C9 hi0 hi1 hi2 hi3 hroom hSim hl hP hD hS K9
      · refine lv_tableIn (tgt := 139) (off := 100) hx hb dL_law_39 (by decide) (by decide) (by decide +kernel) (by decide) ?_
        exact lw_case1 C9 hi0 hi1 hi2 hi3 hroom hSim hl hP hD hS K9
      · refine lv_tableIn (tgt := 219) (off := 180) hx hb dL_law_39 (by decide) (by decide) (by decide +kernel) (by decide) ?_
        exact lw_case2 C9 hi0 hi1 hi2 hi3 hroom hSim hl hP hD hS K9
      · refine lv_tableIn (tgt := 233) (off := 194) hx hb dL_law_39 (by decide) (by decide) (by decide +kernel) (by decide) ?_
        exact lw_case3 C9 hi0 hi1 hi2 hi3 hroom hSim hl hP hD hS K9
      · refine lv_tableIn (tgt := 288) (off := 249) hx hb dL_law_39 (by decide) (by decide) (by decide +kernel) (by decide) ?_
        exact lw_case4 C9 hi0 hi1 hi2 hi3 hroom hSim hl hP hD hS K9
      · refine lv_tableIn (tgt := 356) (off := 317) hx hb dL_law_39 (by decide) (by decide) (by decide +kernel) (by decide) ?_
        exact lw_case5 C9 hi0 hi1 hi2 hi3 hroom hSim hl hP hD hS K9
      · refine lv_tableIn (tgt := 382) (off := 343) hx hb dL_law_39 (by decide) (by decide) (by decide +kernel) (by decide) ?_
        exact lw_case6 C9 hi0 hi1 hi2 hi3 hroom hSim hl hP hD hS K9
      · refine lv_tableIn (tgt := 498) (off := 459) hx hb dL_law_39 (by decide) (by decide) (by decide +kernel) (by decide) ?_
        exact lw_case7 C9 hi0 hi1 hi2 hi3 hroom hSim hl hP hD hS K9
