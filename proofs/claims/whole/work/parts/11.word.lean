def f_X2_bits (p0 : Int32) (p1 : Int32) (p2 : Int32) : Int32 :=
  ((j_iushr p0 p2) &&& (((1 : Int32) <<< (((p1 - p2) + (1 : Int32)) &&& 31)) - (1 : Int32)))
set_option maxHeartbeats 4000000 in
set_option maxRecDepth 100000 in
theorem mt_X2_bits (l : Launch) (p0 : Int32) (p1 : Int32) (p2 : Int32) : Met l yX2_bits wsX2_bits ({ frames := 0, cells := 0, slots := 0, locals := 0 }) (fun v _ => v = ([.int p0, .int p1, .int p2] : List Value).toArray) (k2_QcV (.int (f_X2_bits p0 p1 p2))) 0 0 (fun _ => False) := by
  refine Met.ofW (cc := cX2_bits) (maxL := 3) (ret := (some .int)) (by decide) rfl ?_
  intro p e s m args below meth c s₁ B hml hv
  subst hv
  have hx := B.exec
  have hb := B.bytes
  have hr := B.returns
  have hts0 := atoms_spec (ws := wsX2_bits) B.pre
  have hts := fun (w : Cond) (h : w ∈ lw_G) => hts0 w (List.mem_cons_of_mem _ h)
  have hown : s.vm.findClass RX2 = some m.cls := findClass_of_methodNamed B.named
  have hlocks := B.notSynchronized
  have hl := lv_entry ([.int p0, .int p1, .int p2]) (n := 3) (Nat.le_of_ble_eq_true rfl)
  rw [lg_entry_eq]
  generalize (lg_sl ([.int p0, .int p1, .int p2]) ++ List.replicate (3 - (lg_sl ([.int p0, .int p1, .int p2])).length) Slot.unset).toArray = ls at hl ⊢
  have hl : lv_has ls 3 [(0, .int p0), (1, .int p1), (2, .int p2)] := hl
  refine lv_iload_n hx hb dX2_bits_0 rfl (lv_at hl 0 rfl) ?_
  refine lv_iload_n hx hb dX2_bits_1 rfl (lv_at hl 2 rfl) ?_
  refine lv_iushr (v := (j_iushr p0 p2)) hx hb dX2_bits_2 rfl ?_
  refine lv_iconst (v := (1 : Int32)) hx hb dX2_bits_3 (by decide) ?_
  refine lv_iload_n hx hb dX2_bits_4 rfl (lv_at hl 1 rfl) ?_
  refine lv_iload_n hx hb dX2_bits_5 rfl (lv_at hl 2 rfl) ?_
  refine lv_isub hx hb dX2_bits_6 ?_
  refine lv_iconst (v := (1 : Int32)) hx hb dX2_bits_7 (by decide) ?_
  refine lv_iadd hx hb dX2_bits_8 ?_
  refine lv_ishl hx hb dX2_bits_9 ?_
  refine lv_iconst (v := (1 : Int32)) hx hb dX2_bits_10 (by decide) ?_
  refine lv_isub hx hb dX2_bits_11 ?_
  refine lv_iand hx hb dX2_bits_12 ?_
  have hF : f_X2_bits p0 p1 p2 = ((j_iushr p0 p2) &&& (((1 : Int32) <<< (((p1 - p2) + (1 : Int32)) &&& 31)) - (1 : Int32))) := rfl
  exact W.iret (v := ((j_iushr p0 p2) &&& (((1 : Int32) <<< (((p1 - p2) + (1 : Int32)) &&& 31)) - (1 : Int32)))) hx hb hr (fun t ht hW => ⟨by rw [hF], ht⟩) (fun _ h => by cases h) dX2_bits_13

def f_X2_code (p0 : Int32) : Int32 :=
  (f_X2_bits p0 (6 : Int32) (0 : Int32))
set_option maxHeartbeats 4000000 in
set_option maxRecDepth 100000 in
theorem mt_X2_code (l : Launch) (p0 : Int32) : Met l yX2_code wsX2_code ({ frames := 1, cells := 0, slots := 0, locals := 22 }) (fun v _ => v = ([.int p0] : List Value).toArray) (k2_QcV (.int (f_X2_code p0))) 0 0 (fun _ => False) := by
  refine Met.ofW (cc := cX2_code) (maxL := 1) (ret := (some .int)) (by decide) rfl ?_
  intro p e s m args below meth c s₁ B hml hv
  subst hv
  have hx := B.exec
  have hb := B.bytes
  have hr := B.returns
  have hts0 := atoms_spec (ws := wsX2_code) B.pre
  have hts := fun (w : Cond) (h : w ∈ lw_G) => hts0 w (List.mem_cons_of_mem _ h)
  have hown : s.vm.findClass RX2 = some m.cls := findClass_of_methodNamed B.named
  have hlocks := B.notSynchronized
  have hl := lv_entry ([.int p0]) (n := 1) (Nat.le_of_ble_eq_true rfl)
  rw [lg_entry_eq]
  generalize (lg_sl ([.int p0]) ++ List.replicate (1 - (lg_sl ([.int p0])).length) Slot.unset).toArray = ls at hl ⊢
  have hl : lv_has ls 1 [(0, .int p0)] := hl
  refine lv_iload_n hx hb dX2_code_0 rfl (lv_at hl 0 rfl) ?_
  refine lv_bipush (v := (6 : Int32)) hx hb dX2_code_1 (by decide) ?_
  refine lv_iconst (v := (0 : Int32)) hx hb dX2_code_3 (by decide) ?_
  refine W.callV (W.runS (As := [.int p0, .int (6 : Int32), .int (0 : Int32)]) (rest := []) ⟨hx, hb, hml, hown, hts⟩ (mt_X2_bits l p0 (6 : Int32) (0 : Int32)) (va_cwS 3 hts gX2_7_X2_bits rfl rfl rfl (by decide +kernel) ⟨Nat.le_of_ble_eq_true rfl, Nat.le_of_ble_eq_true rfl⟩) preEq rfl rfl hl.1 rfl (lv_room (Nat.le_of_ble_eq_true rfl)) dX2_code_4 ⟨Nat.le_of_ble_eq_true rfl, Nat.le_of_ble_eq_true rfl⟩) ?_
  refine W.eq (g2 := F0 m 7 ls [.int (f_X2_bits p0 (6 : Int32) (0 : Int32))]) rfl ?_
  have hF : f_X2_code p0 = (f_X2_bits p0 (6 : Int32) (0 : Int32)) := rfl
  exact W.iret (v := (f_X2_bits p0 (6 : Int32) (0 : Int32))) hx hb hr (fun t ht hW => ⟨by rw [hF], ht⟩) (fun _ h => by cases h) dX2_code_7

def f_X2_d (p0 : Int32) : Int32 :=
  (f_X2_bits p0 (11 : Int32) (7 : Int32))
set_option maxHeartbeats 4000000 in
set_option maxRecDepth 100000 in
theorem mt_X2_d (l : Launch) (p0 : Int32) : Met l yX2_d wsX2_d ({ frames := 1, cells := 0, slots := 0, locals := 22 }) (fun v _ => v = ([.int p0] : List Value).toArray) (k2_QcV (.int (f_X2_d p0))) 0 0 (fun _ => False) := by
  refine Met.ofW (cc := cX2_d) (maxL := 1) (ret := (some .int)) (by decide) rfl ?_
  intro p e s m args below meth c s₁ B hml hv
  subst hv
  have hx := B.exec
  have hb := B.bytes
  have hr := B.returns
  have hts0 := atoms_spec (ws := wsX2_d) B.pre
  have hts := fun (w : Cond) (h : w ∈ lw_G) => hts0 w (List.mem_cons_of_mem _ h)
  have hown : s.vm.findClass RX2 = some m.cls := findClass_of_methodNamed B.named
  have hlocks := B.notSynchronized
  have hl := lv_entry ([.int p0]) (n := 1) (Nat.le_of_ble_eq_true rfl)
  rw [lg_entry_eq]
  generalize (lg_sl ([.int p0]) ++ List.replicate (1 - (lg_sl ([.int p0])).length) Slot.unset).toArray = ls at hl ⊢
  have hl : lv_has ls 1 [(0, .int p0)] := hl
  refine lv_iload_n hx hb dX2_d_0 rfl (lv_at hl 0 rfl) ?_
  refine lv_bipush (v := (11 : Int32)) hx hb dX2_d_1 (by decide) ?_
  refine lv_bipush (v := (7 : Int32)) hx hb dX2_d_3 (by decide) ?_
  refine W.callV (W.runS (As := [.int p0, .int (11 : Int32), .int (7 : Int32)]) (rest := []) ⟨hx, hb, hml, hown, hts⟩ (mt_X2_bits l p0 (11 : Int32) (7 : Int32)) (va_cwS 3 hts gX2_7_X2_bits rfl rfl rfl (by decide +kernel) ⟨Nat.le_of_ble_eq_true rfl, Nat.le_of_ble_eq_true rfl⟩) preEq rfl rfl hl.1 rfl (lv_room (Nat.le_of_ble_eq_true rfl)) dX2_d_5 ⟨Nat.le_of_ble_eq_true rfl, Nat.le_of_ble_eq_true rfl⟩) ?_
  refine W.eq (g2 := F0 m 8 ls [.int (f_X2_bits p0 (11 : Int32) (7 : Int32))]) rfl ?_
  have hF : f_X2_d p0 = (f_X2_bits p0 (11 : Int32) (7 : Int32)) := rfl
  exact W.iret (v := (f_X2_bits p0 (11 : Int32) (7 : Int32))) hx hb hr (fun t ht hW => ⟨by rw [hF], ht⟩) (fun _ h => by cases h) dX2_d_8

def f_X2_f (p0 : Int32) : Int32 :=
  (f_X2_bits p0 (14 : Int32) (12 : Int32))
set_option maxHeartbeats 4000000 in
set_option maxRecDepth 100000 in
theorem mt_X2_f (l : Launch) (p0 : Int32) : Met l yX2_f wsX2_f ({ frames := 1, cells := 0, slots := 0, locals := 22 }) (fun v _ => v = ([.int p0] : List Value).toArray) (k2_QcV (.int (f_X2_f p0))) 0 0 (fun _ => False) := by
  refine Met.ofW (cc := cX2_f) (maxL := 1) (ret := (some .int)) (by decide) rfl ?_
  intro p e s m args below meth c s₁ B hml hv
  subst hv
  have hx := B.exec
  have hb := B.bytes
  have hr := B.returns
  have hts0 := atoms_spec (ws := wsX2_f) B.pre
  have hts := fun (w : Cond) (h : w ∈ lw_G) => hts0 w (List.mem_cons_of_mem _ h)
  have hown : s.vm.findClass RX2 = some m.cls := findClass_of_methodNamed B.named
  have hlocks := B.notSynchronized
  have hl := lv_entry ([.int p0]) (n := 1) (Nat.le_of_ble_eq_true rfl)
  rw [lg_entry_eq]
  generalize (lg_sl ([.int p0]) ++ List.replicate (1 - (lg_sl ([.int p0])).length) Slot.unset).toArray = ls at hl ⊢
  have hl : lv_has ls 1 [(0, .int p0)] := hl
  refine lv_iload_n hx hb dX2_f_0 rfl (lv_at hl 0 rfl) ?_
  refine lv_bipush (v := (14 : Int32)) hx hb dX2_f_1 (by decide) ?_
  refine lv_bipush (v := (12 : Int32)) hx hb dX2_f_3 (by decide) ?_
  refine W.callV (W.runS (As := [.int p0, .int (14 : Int32), .int (12 : Int32)]) (rest := []) ⟨hx, hb, hml, hown, hts⟩ (mt_X2_bits l p0 (14 : Int32) (12 : Int32)) (va_cwS 3 hts gX2_7_X2_bits rfl rfl rfl (by decide +kernel) ⟨Nat.le_of_ble_eq_true rfl, Nat.le_of_ble_eq_true rfl⟩) preEq rfl rfl hl.1 rfl (lv_room (Nat.le_of_ble_eq_true rfl)) dX2_f_5 ⟨Nat.le_of_ble_eq_true rfl, Nat.le_of_ble_eq_true rfl⟩) ?_
  refine W.eq (g2 := F0 m 8 ls [.int (f_X2_bits p0 (14 : Int32) (12 : Int32))]) rfl ?_
  have hF : f_X2_f p0 = (f_X2_bits p0 (14 : Int32) (12 : Int32)) := rfl
  exact W.iret (v := (f_X2_bits p0 (14 : Int32) (12 : Int32))) hx hb hr (fun t ht hW => ⟨by rw [hF], ht⟩) (fun _ h => by cases h) dX2_f_8

def f_X2_a (p0 : Int32) : Int32 :=
  (f_X2_bits p0 (19 : Int32) (15 : Int32))
set_option maxHeartbeats 4000000 in
set_option maxRecDepth 100000 in
theorem mt_X2_a (l : Launch) (p0 : Int32) : Met l yX2_a wsX2_a ({ frames := 1, cells := 0, slots := 0, locals := 22 }) (fun v _ => v = ([.int p0] : List Value).toArray) (k2_QcV (.int (f_X2_a p0))) 0 0 (fun _ => False) := by
  refine Met.ofW (cc := cX2_a) (maxL := 1) (ret := (some .int)) (by decide) rfl ?_
  intro p e s m args below meth c s₁ B hml hv
  subst hv
  have hx := B.exec
  have hb := B.bytes
  have hr := B.returns
  have hts0 := atoms_spec (ws := wsX2_a) B.pre
  have hts := fun (w : Cond) (h : w ∈ lw_G) => hts0 w (List.mem_cons_of_mem _ h)
  have hown : s.vm.findClass RX2 = some m.cls := findClass_of_methodNamed B.named
  have hlocks := B.notSynchronized
  have hl := lv_entry ([.int p0]) (n := 1) (Nat.le_of_ble_eq_true rfl)
  rw [lg_entry_eq]
  generalize (lg_sl ([.int p0]) ++ List.replicate (1 - (lg_sl ([.int p0])).length) Slot.unset).toArray = ls at hl ⊢
  have hl : lv_has ls 1 [(0, .int p0)] := hl
  refine lv_iload_n hx hb dX2_a_0 rfl (lv_at hl 0 rfl) ?_
  refine lv_bipush (v := (19 : Int32)) hx hb dX2_a_1 (by decide) ?_
  refine lv_bipush (v := (15 : Int32)) hx hb dX2_a_3 (by decide) ?_
  refine W.callV (W.runS (As := [.int p0, .int (19 : Int32), .int (15 : Int32)]) (rest := []) ⟨hx, hb, hml, hown, hts⟩ (mt_X2_bits l p0 (19 : Int32) (15 : Int32)) (va_cwS 3 hts gX2_7_X2_bits rfl rfl rfl (by decide +kernel) ⟨Nat.le_of_ble_eq_true rfl, Nat.le_of_ble_eq_true rfl⟩) preEq rfl rfl hl.1 rfl (lv_room (Nat.le_of_ble_eq_true rfl)) dX2_a_5 ⟨Nat.le_of_ble_eq_true rfl, Nat.le_of_ble_eq_true rfl⟩) ?_
  refine W.eq (g2 := F0 m 8 ls [.int (f_X2_bits p0 (19 : Int32) (15 : Int32))]) rfl ?_
  have hF : f_X2_a p0 = (f_X2_bits p0 (19 : Int32) (15 : Int32)) := rfl
  exact W.iret (v := (f_X2_bits p0 (19 : Int32) (15 : Int32))) hx hb hr (fun t ht hW => ⟨by rw [hF], ht⟩) (fun _ h => by cases h) dX2_a_8

def f_X2_b (p0 : Int32) : Int32 :=
  (f_X2_bits p0 (24 : Int32) (20 : Int32))
set_option maxHeartbeats 4000000 in
set_option maxRecDepth 100000 in
theorem mt_X2_b (l : Launch) (p0 : Int32) : Met l yX2_b wsX2_b ({ frames := 1, cells := 0, slots := 0, locals := 22 }) (fun v _ => v = ([.int p0] : List Value).toArray) (k2_QcV (.int (f_X2_b p0))) 0 0 (fun _ => False) := by
  refine Met.ofW (cc := cX2_b) (maxL := 1) (ret := (some .int)) (by decide) rfl ?_
  intro p e s m args below meth c s₁ B hml hv
  subst hv
  have hx := B.exec
  have hb := B.bytes
  have hr := B.returns
  have hts0 := atoms_spec (ws := wsX2_b) B.pre
  have hts := fun (w : Cond) (h : w ∈ lw_G) => hts0 w (List.mem_cons_of_mem _ h)
  have hown : s.vm.findClass RX2 = some m.cls := findClass_of_methodNamed B.named
  have hlocks := B.notSynchronized
  have hl := lv_entry ([.int p0]) (n := 1) (Nat.le_of_ble_eq_true rfl)
  rw [lg_entry_eq]
  generalize (lg_sl ([.int p0]) ++ List.replicate (1 - (lg_sl ([.int p0])).length) Slot.unset).toArray = ls at hl ⊢
  have hl : lv_has ls 1 [(0, .int p0)] := hl
  refine lv_iload_n hx hb dX2_b_0 rfl (lv_at hl 0 rfl) ?_
  refine lv_bipush (v := (24 : Int32)) hx hb dX2_b_1 (by decide) ?_
  refine lv_bipush (v := (20 : Int32)) hx hb dX2_b_3 (by decide) ?_
  refine W.callV (W.runS (As := [.int p0, .int (24 : Int32), .int (20 : Int32)]) (rest := []) ⟨hx, hb, hml, hown, hts⟩ (mt_X2_bits l p0 (24 : Int32) (20 : Int32)) (va_cwS 3 hts gX2_7_X2_bits rfl rfl rfl (by decide +kernel) ⟨Nat.le_of_ble_eq_true rfl, Nat.le_of_ble_eq_true rfl⟩) preEq rfl rfl hl.1 rfl (lv_room (Nat.le_of_ble_eq_true rfl)) dX2_b_5 ⟨Nat.le_of_ble_eq_true rfl, Nat.le_of_ble_eq_true rfl⟩) ?_
  refine W.eq (g2 := F0 m 8 ls [.int (f_X2_bits p0 (24 : Int32) (20 : Int32))]) rfl ?_
  have hF : f_X2_b p0 = (f_X2_bits p0 (24 : Int32) (20 : Int32)) := rfl
  exact W.iret (v := (f_X2_bits p0 (24 : Int32) (20 : Int32))) hx hb hr (fun t ht hW => ⟨by rw [hF], ht⟩) (fun _ h => by cases h) dX2_b_8

def f_X2_g (p0 : Int32) : Int32 :=
  (f_X2_bits p0 (31 : Int32) (25 : Int32))
set_option maxHeartbeats 4000000 in
set_option maxRecDepth 100000 in
theorem mt_X2_g (l : Launch) (p0 : Int32) : Met l yX2_g wsX2_g ({ frames := 1, cells := 0, slots := 0, locals := 22 }) (fun v _ => v = ([.int p0] : List Value).toArray) (k2_QcV (.int (f_X2_g p0))) 0 0 (fun _ => False) := by
  refine Met.ofW (cc := cX2_g) (maxL := 1) (ret := (some .int)) (by decide) rfl ?_
  intro p e s m args below meth c s₁ B hml hv
  subst hv
  have hx := B.exec
  have hb := B.bytes
  have hr := B.returns
  have hts0 := atoms_spec (ws := wsX2_g) B.pre
  have hts := fun (w : Cond) (h : w ∈ lw_G) => hts0 w (List.mem_cons_of_mem _ h)
  have hown : s.vm.findClass RX2 = some m.cls := findClass_of_methodNamed B.named
  have hlocks := B.notSynchronized
  have hl := lv_entry ([.int p0]) (n := 1) (Nat.le_of_ble_eq_true rfl)
  rw [lg_entry_eq]
  generalize (lg_sl ([.int p0]) ++ List.replicate (1 - (lg_sl ([.int p0])).length) Slot.unset).toArray = ls at hl ⊢
  have hl : lv_has ls 1 [(0, .int p0)] := hl
  refine lv_iload_n hx hb dX2_g_0 rfl (lv_at hl 0 rfl) ?_
  refine lv_bipush (v := (31 : Int32)) hx hb dX2_g_1 (by decide) ?_
  refine lv_bipush (v := (25 : Int32)) hx hb dX2_g_3 (by decide) ?_
  refine W.callV (W.runS (As := [.int p0, .int (31 : Int32), .int (25 : Int32)]) (rest := []) ⟨hx, hb, hml, hown, hts⟩ (mt_X2_bits l p0 (31 : Int32) (25 : Int32)) (va_cwS 3 hts gX2_7_X2_bits rfl rfl rfl (by decide +kernel) ⟨Nat.le_of_ble_eq_true rfl, Nat.le_of_ble_eq_true rfl⟩) preEq rfl rfl hl.1 rfl (lv_room (Nat.le_of_ble_eq_true rfl)) dX2_g_5 ⟨Nat.le_of_ble_eq_true rfl, Nat.le_of_ble_eq_true rfl⟩) ?_
  refine W.eq (g2 := F0 m 8 ls [.int (f_X2_bits p0 (31 : Int32) (25 : Int32))]) rfl ?_
  have hF : f_X2_g p0 = (f_X2_bits p0 (31 : Int32) (25 : Int32)) := rfl
  exact W.iret (v := (f_X2_bits p0 (31 : Int32) (25 : Int32))) hx hb hr (fun t ht hW => ⟨by rw [hF], ht⟩) (fun _ h => by cases h) dX2_g_8

def f_X2_aboveLongShift (p0 : Int32) : Int32 :=
  (f_X2_bits p0 (31 : Int32) (26 : Int32))
set_option maxHeartbeats 4000000 in
set_option maxRecDepth 100000 in
theorem mt_X2_aboveLongShift (l : Launch) (p0 : Int32) : Met l yX2_aboveLongShift wsX2_aboveLongShift ({ frames := 1, cells := 0, slots := 0, locals := 22 }) (fun v _ => v = ([.int p0] : List Value).toArray) (k2_QcV (.int (f_X2_aboveLongShift p0))) 0 0 (fun _ => False) := by
  refine Met.ofW (cc := cX2_aboveLongShift) (maxL := 1) (ret := (some .int)) (by decide) rfl ?_
  intro p e s m args below meth c s₁ B hml hv
  subst hv
  have hx := B.exec
  have hb := B.bytes
  have hr := B.returns
  have hts0 := atoms_spec (ws := wsX2_aboveLongShift) B.pre
  have hts := fun (w : Cond) (h : w ∈ lw_G) => hts0 w (List.mem_cons_of_mem _ h)
  have hown : s.vm.findClass RX2 = some m.cls := findClass_of_methodNamed B.named
  have hlocks := B.notSynchronized
  have hl := lv_entry ([.int p0]) (n := 1) (Nat.le_of_ble_eq_true rfl)
  rw [lg_entry_eq]
  generalize (lg_sl ([.int p0]) ++ List.replicate (1 - (lg_sl ([.int p0])).length) Slot.unset).toArray = ls at hl ⊢
  have hl : lv_has ls 1 [(0, .int p0)] := hl
  refine lv_iload_n hx hb dX2_aboveLongShift_0 rfl (lv_at hl 0 rfl) ?_
  refine lv_bipush (v := (31 : Int32)) hx hb dX2_aboveLongShift_1 (by decide) ?_
  refine lv_bipush (v := (26 : Int32)) hx hb dX2_aboveLongShift_3 (by decide) ?_
  refine W.callV (W.runS (As := [.int p0, .int (31 : Int32), .int (26 : Int32)]) (rest := []) ⟨hx, hb, hml, hown, hts⟩ (mt_X2_bits l p0 (31 : Int32) (26 : Int32)) (va_cwS 3 hts gX2_7_X2_bits rfl rfl rfl (by decide +kernel) ⟨Nat.le_of_ble_eq_true rfl, Nat.le_of_ble_eq_true rfl⟩) preEq rfl rfl hl.1 rfl (lv_room (Nat.le_of_ble_eq_true rfl)) dX2_aboveLongShift_5 ⟨Nat.le_of_ble_eq_true rfl, Nat.le_of_ble_eq_true rfl⟩) ?_
  refine W.eq (g2 := F0 m 8 ls [.int (f_X2_bits p0 (31 : Int32) (26 : Int32))]) rfl ?_
  have hF : f_X2_aboveLongShift p0 = (f_X2_bits p0 (31 : Int32) (26 : Int32)) := rfl
  exact W.iret (v := (f_X2_bits p0 (31 : Int32) (26 : Int32))) hx hb hr (fun t ht hW => ⟨by rw [hF], ht⟩) (fun _ h => by cases h) dX2_aboveLongShift_8

def f_X2_atomicSort (p0 : Int32) : Int32 :=
  (f_X2_bits p0 (31 : Int32) (27 : Int32))
set_option maxHeartbeats 4000000 in
set_option maxRecDepth 100000 in
theorem mt_X2_atomicSort (l : Launch) (p0 : Int32) : Met l yX2_atomicSort wsX2_atomicSort ({ frames := 1, cells := 0, slots := 0, locals := 22 }) (fun v _ => v = ([.int p0] : List Value).toArray) (k2_QcV (.int (f_X2_atomicSort p0))) 0 0 (fun _ => False) := by
  refine Met.ofW (cc := cX2_atomicSort) (maxL := 1) (ret := (some .int)) (by decide) rfl ?_
  intro p e s m args below meth c s₁ B hml hv
  subst hv
  have hx := B.exec
  have hb := B.bytes
  have hr := B.returns
  have hts0 := atoms_spec (ws := wsX2_atomicSort) B.pre
  have hts := fun (w : Cond) (h : w ∈ lw_G) => hts0 w (List.mem_cons_of_mem _ h)
  have hown : s.vm.findClass RX2 = some m.cls := findClass_of_methodNamed B.named
  have hlocks := B.notSynchronized
  have hl := lv_entry ([.int p0]) (n := 1) (Nat.le_of_ble_eq_true rfl)
  rw [lg_entry_eq]
  generalize (lg_sl ([.int p0]) ++ List.replicate (1 - (lg_sl ([.int p0])).length) Slot.unset).toArray = ls at hl ⊢
  have hl : lv_has ls 1 [(0, .int p0)] := hl
  refine lv_iload_n hx hb dX2_atomicSort_0 rfl (lv_at hl 0 rfl) ?_
  refine lv_bipush (v := (31 : Int32)) hx hb dX2_atomicSort_1 (by decide) ?_
  refine lv_bipush (v := (27 : Int32)) hx hb dX2_atomicSort_3 (by decide) ?_
  refine W.callV (W.runS (As := [.int p0, .int (31 : Int32), .int (27 : Int32)]) (rest := []) ⟨hx, hb, hml, hown, hts⟩ (mt_X2_bits l p0 (31 : Int32) (27 : Int32)) (va_cwS 3 hts gX2_7_X2_bits rfl rfl rfl (by decide +kernel) ⟨Nat.le_of_ble_eq_true rfl, Nat.le_of_ble_eq_true rfl⟩) preEq rfl rfl hl.1 rfl (lv_room (Nat.le_of_ble_eq_true rfl)) dX2_atomicSort_5 ⟨Nat.le_of_ble_eq_true rfl, Nat.le_of_ble_eq_true rfl⟩) ?_
  refine W.eq (g2 := F0 m 8 ls [.int (f_X2_bits p0 (31 : Int32) (27 : Int32))]) rfl ?_
  have hF : f_X2_atomicSort p0 = (f_X2_bits p0 (31 : Int32) (27 : Int32)) := rfl
  exact W.iret (v := (f_X2_bits p0 (31 : Int32) (27 : Int32))) hx hb hr (fun t ht hW => ⟨by rw [hF], ht⟩) (fun _ h => by cases h) dX2_atomicSort_8

def f_X2_controlNumber (p0 : Int32) : Int32 :=
  (f_X2_bits p0 (31 : Int32) (20 : Int32))
set_option maxHeartbeats 4000000 in
set_option maxRecDepth 100000 in
theorem mt_X2_controlNumber (l : Launch) (p0 : Int32) : Met l yX2_controlNumber wsX2_controlNumber ({ frames := 1, cells := 0, slots := 0, locals := 22 }) (fun v _ => v = ([.int p0] : List Value).toArray) (k2_QcV (.int (f_X2_controlNumber p0))) 0 0 (fun _ => False) := by
  refine Met.ofW (cc := cX2_controlNumber) (maxL := 1) (ret := (some .int)) (by decide) rfl ?_
  intro p e s m args below meth c s₁ B hml hv
  subst hv
  have hx := B.exec
  have hb := B.bytes
  have hr := B.returns
  have hts0 := atoms_spec (ws := wsX2_controlNumber) B.pre
  have hts := fun (w : Cond) (h : w ∈ lw_G) => hts0 w (List.mem_cons_of_mem _ h)
  have hown : s.vm.findClass RX2 = some m.cls := findClass_of_methodNamed B.named
  have hlocks := B.notSynchronized
  have hl := lv_entry ([.int p0]) (n := 1) (Nat.le_of_ble_eq_true rfl)
  rw [lg_entry_eq]
  generalize (lg_sl ([.int p0]) ++ List.replicate (1 - (lg_sl ([.int p0])).length) Slot.unset).toArray = ls at hl ⊢
  have hl : lv_has ls 1 [(0, .int p0)] := hl
  refine lv_iload_n hx hb dX2_controlNumber_0 rfl (lv_at hl 0 rfl) ?_
  refine lv_bipush (v := (31 : Int32)) hx hb dX2_controlNumber_1 (by decide) ?_
  refine lv_bipush (v := (20 : Int32)) hx hb dX2_controlNumber_3 (by decide) ?_
  refine W.callV (W.runS (As := [.int p0, .int (31 : Int32), .int (20 : Int32)]) (rest := []) ⟨hx, hb, hml, hown, hts⟩ (mt_X2_bits l p0 (31 : Int32) (20 : Int32)) (va_cwS 3 hts gX2_7_X2_bits rfl rfl rfl (by decide +kernel) ⟨Nat.le_of_ble_eq_true rfl, Nat.le_of_ble_eq_true rfl⟩) preEq rfl rfl hl.1 rfl (lv_room (Nat.le_of_ble_eq_true rfl)) dX2_controlNumber_5 ⟨Nat.le_of_ble_eq_true rfl, Nat.le_of_ble_eq_true rfl⟩) ?_
  refine W.eq (g2 := F0 m 8 ls [.int (f_X2_bits p0 (31 : Int32) (20 : Int32))]) rfl ?_
  have hF : f_X2_controlNumber p0 = (f_X2_bits p0 (31 : Int32) (20 : Int32)) := rfl
  exact W.iret (v := (f_X2_bits p0 (31 : Int32) (20 : Int32))) hx hb hr (fun t ht hW => ⟨by rw [hF], ht⟩) (fun _ h => by cases h) dX2_controlNumber_8

def f_X2_immediateI (p0 : Int32) : Int32 :=
  (p0 >>> ((20 : Int32) &&& 31))
set_option maxHeartbeats 4000000 in
set_option maxRecDepth 100000 in
theorem mt_X2_immediateI (l : Launch) (p0 : Int32) : Met l yX2_immediateI wsX2_immediateI ({ frames := 0, cells := 0, slots := 0, locals := 0 }) (fun v _ => v = ([.int p0] : List Value).toArray) (k2_QcV (.int (f_X2_immediateI p0))) 0 0 (fun _ => False) := by
  refine Met.ofW (cc := cX2_immediateI) (maxL := 1) (ret := (some .int)) (by decide) rfl ?_
  intro p e s m args below meth c s₁ B hml hv
  subst hv
  have hx := B.exec
  have hb := B.bytes
  have hr := B.returns
  have hts0 := atoms_spec (ws := wsX2_immediateI) B.pre
  have hts := fun (w : Cond) (h : w ∈ lw_G) => hts0 w (List.mem_cons_of_mem _ h)
  have hown : s.vm.findClass RX2 = some m.cls := findClass_of_methodNamed B.named
  have hlocks := B.notSynchronized
  have hl := lv_entry ([.int p0]) (n := 1) (Nat.le_of_ble_eq_true rfl)
  rw [lg_entry_eq]
  generalize (lg_sl ([.int p0]) ++ List.replicate (1 - (lg_sl ([.int p0])).length) Slot.unset).toArray = ls at hl ⊢
  have hl : lv_has ls 1 [(0, .int p0)] := hl
  refine lv_iload_n hx hb dX2_immediateI_0 rfl (lv_at hl 0 rfl) ?_
  refine lv_bipush (v := (20 : Int32)) hx hb dX2_immediateI_1 (by decide) ?_
  refine lv_ishr hx hb dX2_immediateI_3 ?_
  have hF : f_X2_immediateI p0 = (p0 >>> ((20 : Int32) &&& 31)) := rfl
  exact W.iret (v := (p0 >>> ((20 : Int32) &&& 31))) hx hb hr (fun t ht hW => ⟨by rw [hF], ht⟩) (fun _ h => by cases h) dX2_immediateI_4

def f_X2_immediateS (p0 : Int32) : Int32 :=
  (((p0 >>> ((25 : Int32) &&& 31)) <<< ((5 : Int32) &&& 31)) ||| (f_X2_bits p0 (11 : Int32) (7 : Int32)))
set_option maxHeartbeats 4000000 in
set_option maxRecDepth 100000 in
theorem mt_X2_immediateS (l : Launch) (p0 : Int32) : Met l yX2_immediateS wsX2_immediateS ({ frames := 1, cells := 0, slots := 0, locals := 22 }) (fun v _ => v = ([.int p0] : List Value).toArray) (k2_QcV (.int (f_X2_immediateS p0))) 0 0 (fun _ => False) := by
  refine Met.ofW (cc := cX2_immediateS) (maxL := 1) (ret := (some .int)) (by decide) rfl ?_
  intro p e s m args below meth c s₁ B hml hv
  subst hv
  have hx := B.exec
  have hb := B.bytes
  have hr := B.returns
  have hts0 := atoms_spec (ws := wsX2_immediateS) B.pre
  have hts := fun (w : Cond) (h : w ∈ lw_G) => hts0 w (List.mem_cons_of_mem _ h)
  have hown : s.vm.findClass RX2 = some m.cls := findClass_of_methodNamed B.named
  have hlocks := B.notSynchronized
  have hl := lv_entry ([.int p0]) (n := 1) (Nat.le_of_ble_eq_true rfl)
  rw [lg_entry_eq]
  generalize (lg_sl ([.int p0]) ++ List.replicate (1 - (lg_sl ([.int p0])).length) Slot.unset).toArray = ls at hl ⊢
  have hl : lv_has ls 1 [(0, .int p0)] := hl
  refine lv_iload_n hx hb dX2_immediateS_0 rfl (lv_at hl 0 rfl) ?_
  refine lv_bipush (v := (25 : Int32)) hx hb dX2_immediateS_1 (by decide) ?_
  refine lv_ishr hx hb dX2_immediateS_3 ?_
  refine lv_iconst (v := (5 : Int32)) hx hb dX2_immediateS_4 (by decide) ?_
  refine lv_ishl hx hb dX2_immediateS_5 ?_
  refine lv_iload_n hx hb dX2_immediateS_6 rfl (lv_at hl 0 rfl) ?_
  refine lv_bipush (v := (11 : Int32)) hx hb dX2_immediateS_7 (by decide) ?_
  refine lv_bipush (v := (7 : Int32)) hx hb dX2_immediateS_9 (by decide) ?_
  refine W.callV (W.runS (As := [.int p0, .int (11 : Int32), .int (7 : Int32)]) (rest := [.int ((p0 >>> ((25 : Int32) &&& 31)) <<< ((5 : Int32) &&& 31))]) ⟨hx, hb, hml, hown, hts⟩ (mt_X2_bits l p0 (11 : Int32) (7 : Int32)) (va_cwS 3 hts gX2_7_X2_bits rfl rfl rfl (by decide +kernel) ⟨Nat.le_of_ble_eq_true rfl, Nat.le_of_ble_eq_true rfl⟩) preEq rfl rfl hl.1 rfl (lv_room (Nat.le_of_ble_eq_true rfl)) dX2_immediateS_11 ⟨Nat.le_of_ble_eq_true rfl, Nat.le_of_ble_eq_true rfl⟩) ?_
  refine W.eq (g2 := F0 m 14 ls [.int (f_X2_bits p0 (11 : Int32) (7 : Int32)), .int ((p0 >>> ((25 : Int32) &&& 31)) <<< ((5 : Int32) &&& 31))]) rfl ?_
  refine lv_ior hx hb dX2_immediateS_14 ?_
  have hF : f_X2_immediateS p0 = (((p0 >>> ((25 : Int32) &&& 31)) <<< ((5 : Int32) &&& 31)) ||| (f_X2_bits p0 (11 : Int32) (7 : Int32))) := rfl
  exact W.iret (v := (((p0 >>> ((25 : Int32) &&& 31)) <<< ((5 : Int32) &&& 31)) ||| (f_X2_bits p0 (11 : Int32) (7 : Int32)))) hx hb hr (fun t ht hW => ⟨by rw [hF], ht⟩) (fun _ h => by cases h) dX2_immediateS_15

def f_X2_immediateB (p0 : Int32) : Int32 :=
  (((((p0 >>> ((31 : Int32) &&& 31)) <<< ((12 : Int32) &&& 31)) ||| ((f_X2_bits p0 (7 : Int32) (7 : Int32)) <<< ((11 : Int32) &&& 31))) ||| ((f_X2_bits p0 (30 : Int32) (25 : Int32)) <<< ((5 : Int32) &&& 31))) ||| ((f_X2_bits p0 (11 : Int32) (8 : Int32)) <<< ((1 : Int32) &&& 31)))
set_option maxHeartbeats 4000000 in
set_option maxRecDepth 100000 in
theorem mt_X2_immediateB (l : Launch) (p0 : Int32) : Met l yX2_immediateB wsX2_immediateB ({ frames := 1, cells := 0, slots := 0, locals := 22 }) (fun v _ => v = ([.int p0] : List Value).toArray) (k2_QcV (.int (f_X2_immediateB p0))) 0 0 (fun _ => False) := by
  refine Met.ofW (cc := cX2_immediateB) (maxL := 1) (ret := (some .int)) (by decide) rfl ?_
  intro p e s m args below meth c s₁ B hml hv
  subst hv
  have hx := B.exec
  have hb := B.bytes
  have hr := B.returns
  have hts0 := atoms_spec (ws := wsX2_immediateB) B.pre
  have hts := fun (w : Cond) (h : w ∈ lw_G) => hts0 w (List.mem_cons_of_mem _ h)
  have hown : s.vm.findClass RX2 = some m.cls := findClass_of_methodNamed B.named
  have hlocks := B.notSynchronized
  have hl := lv_entry ([.int p0]) (n := 1) (Nat.le_of_ble_eq_true rfl)
  rw [lg_entry_eq]
  generalize (lg_sl ([.int p0]) ++ List.replicate (1 - (lg_sl ([.int p0])).length) Slot.unset).toArray = ls at hl ⊢
  have hl : lv_has ls 1 [(0, .int p0)] := hl
  refine lv_iload_n hx hb dX2_immediateB_0 rfl (lv_at hl 0 rfl) ?_
  refine lv_bipush (v := (31 : Int32)) hx hb dX2_immediateB_1 (by decide) ?_
  refine lv_ishr hx hb dX2_immediateB_3 ?_
  refine lv_bipush (v := (12 : Int32)) hx hb dX2_immediateB_4 (by decide) ?_
  refine lv_ishl hx hb dX2_immediateB_6 ?_
  refine lv_iload_n hx hb dX2_immediateB_7 rfl (lv_at hl 0 rfl) ?_
  refine lv_bipush (v := (7 : Int32)) hx hb dX2_immediateB_8 (by decide) ?_
  refine lv_bipush (v := (7 : Int32)) hx hb dX2_immediateB_10 (by decide) ?_
  refine W.callV (W.runS (As := [.int p0, .int (7 : Int32), .int (7 : Int32)]) (rest := [.int ((p0 >>> ((31 : Int32) &&& 31)) <<< ((12 : Int32) &&& 31))]) ⟨hx, hb, hml, hown, hts⟩ (mt_X2_bits l p0 (7 : Int32) (7 : Int32)) (va_cwS 3 hts gX2_7_X2_bits rfl rfl rfl (by decide +kernel) ⟨Nat.le_of_ble_eq_true rfl, Nat.le_of_ble_eq_true rfl⟩) preEq rfl rfl hl.1 rfl (lv_room (Nat.le_of_ble_eq_true rfl)) dX2_immediateB_12 ⟨Nat.le_of_ble_eq_true rfl, Nat.le_of_ble_eq_true rfl⟩) ?_
  refine W.eq (g2 := F0 m 15 ls [.int (f_X2_bits p0 (7 : Int32) (7 : Int32)), .int ((p0 >>> ((31 : Int32) &&& 31)) <<< ((12 : Int32) &&& 31))]) rfl ?_
  refine lv_bipush (v := (11 : Int32)) hx hb dX2_immediateB_15 (by decide) ?_
  refine lv_ishl hx hb dX2_immediateB_17 ?_
  refine lv_ior hx hb dX2_immediateB_18 ?_
  refine lv_iload_n hx hb dX2_immediateB_19 rfl (lv_at hl 0 rfl) ?_
  refine lv_bipush (v := (30 : Int32)) hx hb dX2_immediateB_20 (by decide) ?_
  refine lv_bipush (v := (25 : Int32)) hx hb dX2_immediateB_22 (by decide) ?_
  refine W.callV (W.runS (As := [.int p0, .int (30 : Int32), .int (25 : Int32)]) (rest := [.int (((p0 >>> ((31 : Int32) &&& 31)) <<< ((12 : Int32) &&& 31)) ||| ((f_X2_bits p0 (7 : Int32) (7 : Int32)) <<< ((11 : Int32) &&& 31)))]) ⟨hx, hb, hml, hown, hts⟩ (mt_X2_bits l p0 (30 : Int32) (25 : Int32)) (va_cwS 3 hts gX2_7_X2_bits rfl rfl rfl (by decide +kernel) ⟨Nat.le_of_ble_eq_true rfl, Nat.le_of_ble_eq_true rfl⟩) preEq rfl rfl hl.1 rfl (lv_room (Nat.le_of_ble_eq_true rfl)) dX2_immediateB_24 ⟨Nat.le_of_ble_eq_true rfl, Nat.le_of_ble_eq_true rfl⟩) ?_
  refine W.eq (g2 := F0 m 27 ls [.int (f_X2_bits p0 (30 : Int32) (25 : Int32)), .int (((p0 >>> ((31 : Int32) &&& 31)) <<< ((12 : Int32) &&& 31)) ||| ((f_X2_bits p0 (7 : Int32) (7 : Int32)) <<< ((11 : Int32) &&& 31)))]) rfl ?_
  refine lv_iconst (v := (5 : Int32)) hx hb dX2_immediateB_27 (by decide) ?_
  refine lv_ishl hx hb dX2_immediateB_28 ?_
  refine lv_ior hx hb dX2_immediateB_29 ?_
  refine lv_iload_n hx hb dX2_immediateB_30 rfl (lv_at hl 0 rfl) ?_
  refine lv_bipush (v := (11 : Int32)) hx hb dX2_immediateB_31 (by decide) ?_
  refine lv_bipush (v := (8 : Int32)) hx hb dX2_immediateB_33 (by decide) ?_
  refine W.callV (W.runS (As := [.int p0, .int (11 : Int32), .int (8 : Int32)]) (rest := [.int ((((p0 >>> ((31 : Int32) &&& 31)) <<< ((12 : Int32) &&& 31)) ||| ((f_X2_bits p0 (7 : Int32) (7 : Int32)) <<< ((11 : Int32) &&& 31))) ||| ((f_X2_bits p0 (30 : Int32) (25 : Int32)) <<< ((5 : Int32) &&& 31)))]) ⟨hx, hb, hml, hown, hts⟩ (mt_X2_bits l p0 (11 : Int32) (8 : Int32)) (va_cwS 3 hts gX2_7_X2_bits rfl rfl rfl (by decide +kernel) ⟨Nat.le_of_ble_eq_true rfl, Nat.le_of_ble_eq_true rfl⟩) preEq rfl rfl hl.1 rfl (lv_room (Nat.le_of_ble_eq_true rfl)) dX2_immediateB_35 ⟨Nat.le_of_ble_eq_true rfl, Nat.le_of_ble_eq_true rfl⟩) ?_
  refine W.eq (g2 := F0 m 38 ls [.int (f_X2_bits p0 (11 : Int32) (8 : Int32)), .int ((((p0 >>> ((31 : Int32) &&& 31)) <<< ((12 : Int32) &&& 31)) ||| ((f_X2_bits p0 (7 : Int32) (7 : Int32)) <<< ((11 : Int32) &&& 31))) ||| ((f_X2_bits p0 (30 : Int32) (25 : Int32)) <<< ((5 : Int32) &&& 31)))]) rfl ?_
  refine lv_iconst (v := (1 : Int32)) hx hb dX2_immediateB_38 (by decide) ?_
  refine lv_ishl hx hb dX2_immediateB_39 ?_
  refine lv_ior hx hb dX2_immediateB_40 ?_
  have hF : f_X2_immediateB p0 = (((((p0 >>> ((31 : Int32) &&& 31)) <<< ((12 : Int32) &&& 31)) ||| ((f_X2_bits p0 (7 : Int32) (7 : Int32)) <<< ((11 : Int32) &&& 31))) ||| ((f_X2_bits p0 (30 : Int32) (25 : Int32)) <<< ((5 : Int32) &&& 31))) ||| ((f_X2_bits p0 (11 : Int32) (8 : Int32)) <<< ((1 : Int32) &&& 31))) := rfl
  exact W.iret (v := (((((p0 >>> ((31 : Int32) &&& 31)) <<< ((12 : Int32) &&& 31)) ||| ((f_X2_bits p0 (7 : Int32) (7 : Int32)) <<< ((11 : Int32) &&& 31))) ||| ((f_X2_bits p0 (30 : Int32) (25 : Int32)) <<< ((5 : Int32) &&& 31))) ||| ((f_X2_bits p0 (11 : Int32) (8 : Int32)) <<< ((1 : Int32) &&& 31)))) hx hb hr (fun t ht hW => ⟨by rw [hF], ht⟩) (fun _ h => by cases h) dX2_immediateB_41

def f_X2_immediateU (p0 : Int32) : Int32 :=
  ((p0 >>> ((12 : Int32) &&& 31)) <<< ((12 : Int32) &&& 31))
set_option maxHeartbeats 4000000 in
set_option maxRecDepth 100000 in
theorem mt_X2_immediateU (l : Launch) (p0 : Int32) : Met l yX2_immediateU wsX2_immediateU ({ frames := 0, cells := 0, slots := 0, locals := 0 }) (fun v _ => v = ([.int p0] : List Value).toArray) (k2_QcV (.int (f_X2_immediateU p0))) 0 0 (fun _ => False) := by
  refine Met.ofW (cc := cX2_immediateU) (maxL := 1) (ret := (some .int)) (by decide) rfl ?_
  intro p e s m args below meth c s₁ B hml hv
  subst hv
  have hx := B.exec
  have hb := B.bytes
  have hr := B.returns
  have hts0 := atoms_spec (ws := wsX2_immediateU) B.pre
  have hts := fun (w : Cond) (h : w ∈ lw_G) => hts0 w (List.mem_cons_of_mem _ h)
  have hown : s.vm.findClass RX2 = some m.cls := findClass_of_methodNamed B.named
  have hlocks := B.notSynchronized
  have hl := lv_entry ([.int p0]) (n := 1) (Nat.le_of_ble_eq_true rfl)
  rw [lg_entry_eq]
  generalize (lg_sl ([.int p0]) ++ List.replicate (1 - (lg_sl ([.int p0])).length) Slot.unset).toArray = ls at hl ⊢
  have hl : lv_has ls 1 [(0, .int p0)] := hl
  refine lv_iload_n hx hb dX2_immediateU_0 rfl (lv_at hl 0 rfl) ?_
  refine lv_bipush (v := (12 : Int32)) hx hb dX2_immediateU_1 (by decide) ?_
  refine lv_ishr hx hb dX2_immediateU_3 ?_
  refine lv_bipush (v := (12 : Int32)) hx hb dX2_immediateU_4 (by decide) ?_
  refine lv_ishl hx hb dX2_immediateU_6 ?_
  have hF : f_X2_immediateU p0 = ((p0 >>> ((12 : Int32) &&& 31)) <<< ((12 : Int32) &&& 31)) := rfl
  exact W.iret (v := ((p0 >>> ((12 : Int32) &&& 31)) <<< ((12 : Int32) &&& 31))) hx hb hr (fun t ht hW => ⟨by rw [hF], ht⟩) (fun _ h => by cases h) dX2_immediateU_7

def f_X2_immediateJ (p0 : Int32) : Int32 :=
  (((((p0 >>> ((31 : Int32) &&& 31)) <<< ((20 : Int32) &&& 31)) ||| ((f_X2_bits p0 (19 : Int32) (12 : Int32)) <<< ((12 : Int32) &&& 31))) ||| ((f_X2_bits p0 (20 : Int32) (20 : Int32)) <<< ((11 : Int32) &&& 31))) ||| ((f_X2_bits p0 (30 : Int32) (21 : Int32)) <<< ((1 : Int32) &&& 31)))
set_option maxHeartbeats 4000000 in
set_option maxRecDepth 100000 in
theorem mt_X2_immediateJ (l : Launch) (p0 : Int32) : Met l yX2_immediateJ wsX2_immediateJ ({ frames := 1, cells := 0, slots := 0, locals := 22 }) (fun v _ => v = ([.int p0] : List Value).toArray) (k2_QcV (.int (f_X2_immediateJ p0))) 0 0 (fun _ => False) := by
  refine Met.ofW (cc := cX2_immediateJ) (maxL := 1) (ret := (some .int)) (by decide) rfl ?_
  intro p e s m args below meth c s₁ B hml hv
  subst hv
  have hx := B.exec
  have hb := B.bytes
  have hr := B.returns
  have hts0 := atoms_spec (ws := wsX2_immediateJ) B.pre
  have hts := fun (w : Cond) (h : w ∈ lw_G) => hts0 w (List.mem_cons_of_mem _ h)
  have hown : s.vm.findClass RX2 = some m.cls := findClass_of_methodNamed B.named
  have hlocks := B.notSynchronized
  have hl := lv_entry ([.int p0]) (n := 1) (Nat.le_of_ble_eq_true rfl)
  rw [lg_entry_eq]
  generalize (lg_sl ([.int p0]) ++ List.replicate (1 - (lg_sl ([.int p0])).length) Slot.unset).toArray = ls at hl ⊢
  have hl : lv_has ls 1 [(0, .int p0)] := hl
  refine lv_iload_n hx hb dX2_immediateJ_0 rfl (lv_at hl 0 rfl) ?_
  refine lv_bipush (v := (31 : Int32)) hx hb dX2_immediateJ_1 (by decide) ?_
  refine lv_ishr hx hb dX2_immediateJ_3 ?_
  refine lv_bipush (v := (20 : Int32)) hx hb dX2_immediateJ_4 (by decide) ?_
  refine lv_ishl hx hb dX2_immediateJ_6 ?_
  refine lv_iload_n hx hb dX2_immediateJ_7 rfl (lv_at hl 0 rfl) ?_
  refine lv_bipush (v := (19 : Int32)) hx hb dX2_immediateJ_8 (by decide) ?_
  refine lv_bipush (v := (12 : Int32)) hx hb dX2_immediateJ_10 (by decide) ?_
  refine W.callV (W.runS (As := [.int p0, .int (19 : Int32), .int (12 : Int32)]) (rest := [.int ((p0 >>> ((31 : Int32) &&& 31)) <<< ((20 : Int32) &&& 31))]) ⟨hx, hb, hml, hown, hts⟩ (mt_X2_bits l p0 (19 : Int32) (12 : Int32)) (va_cwS 3 hts gX2_7_X2_bits rfl rfl rfl (by decide +kernel) ⟨Nat.le_of_ble_eq_true rfl, Nat.le_of_ble_eq_true rfl⟩) preEq rfl rfl hl.1 rfl (lv_room (Nat.le_of_ble_eq_true rfl)) dX2_immediateJ_12 ⟨Nat.le_of_ble_eq_true rfl, Nat.le_of_ble_eq_true rfl⟩) ?_
  refine W.eq (g2 := F0 m 15 ls [.int (f_X2_bits p0 (19 : Int32) (12 : Int32)), .int ((p0 >>> ((31 : Int32) &&& 31)) <<< ((20 : Int32) &&& 31))]) rfl ?_
  refine lv_bipush (v := (12 : Int32)) hx hb dX2_immediateJ_15 (by decide) ?_
  refine lv_ishl hx hb dX2_immediateJ_17 ?_
  refine lv_ior hx hb dX2_immediateJ_18 ?_
  refine lv_iload_n hx hb dX2_immediateJ_19 rfl (lv_at hl 0 rfl) ?_
  refine lv_bipush (v := (20 : Int32)) hx hb dX2_immediateJ_20 (by decide) ?_
  refine lv_bipush (v := (20 : Int32)) hx hb dX2_immediateJ_22 (by decide) ?_
  refine W.callV (W.runS (As := [.int p0, .int (20 : Int32), .int (20 : Int32)]) (rest := [.int (((p0 >>> ((31 : Int32) &&& 31)) <<< ((20 : Int32) &&& 31)) ||| ((f_X2_bits p0 (19 : Int32) (12 : Int32)) <<< ((12 : Int32) &&& 31)))]) ⟨hx, hb, hml, hown, hts⟩ (mt_X2_bits l p0 (20 : Int32) (20 : Int32)) (va_cwS 3 hts gX2_7_X2_bits rfl rfl rfl (by decide +kernel) ⟨Nat.le_of_ble_eq_true rfl, Nat.le_of_ble_eq_true rfl⟩) preEq rfl rfl hl.1 rfl (lv_room (Nat.le_of_ble_eq_true rfl)) dX2_immediateJ_24 ⟨Nat.le_of_ble_eq_true rfl, Nat.le_of_ble_eq_true rfl⟩) ?_
  refine W.eq (g2 := F0 m 27 ls [.int (f_X2_bits p0 (20 : Int32) (20 : Int32)), .int (((p0 >>> ((31 : Int32) &&& 31)) <<< ((20 : Int32) &&& 31)) ||| ((f_X2_bits p0 (19 : Int32) (12 : Int32)) <<< ((12 : Int32) &&& 31)))]) rfl ?_
  refine lv_bipush (v := (11 : Int32)) hx hb dX2_immediateJ_27 (by decide) ?_
  refine lv_ishl hx hb dX2_immediateJ_29 ?_
  refine lv_ior hx hb dX2_immediateJ_30 ?_
  refine lv_iload_n hx hb dX2_immediateJ_31 rfl (lv_at hl 0 rfl) ?_
  refine lv_bipush (v := (30 : Int32)) hx hb dX2_immediateJ_32 (by decide) ?_
  refine lv_bipush (v := (21 : Int32)) hx hb dX2_immediateJ_34 (by decide) ?_
  refine W.callV (W.runS (As := [.int p0, .int (30 : Int32), .int (21 : Int32)]) (rest := [.int ((((p0 >>> ((31 : Int32) &&& 31)) <<< ((20 : Int32) &&& 31)) ||| ((f_X2_bits p0 (19 : Int32) (12 : Int32)) <<< ((12 : Int32) &&& 31))) ||| ((f_X2_bits p0 (20 : Int32) (20 : Int32)) <<< ((11 : Int32) &&& 31)))]) ⟨hx, hb, hml, hown, hts⟩ (mt_X2_bits l p0 (30 : Int32) (21 : Int32)) (va_cwS 3 hts gX2_7_X2_bits rfl rfl rfl (by decide +kernel) ⟨Nat.le_of_ble_eq_true rfl, Nat.le_of_ble_eq_true rfl⟩) preEq rfl rfl hl.1 rfl (lv_room (Nat.le_of_ble_eq_true rfl)) dX2_immediateJ_36 ⟨Nat.le_of_ble_eq_true rfl, Nat.le_of_ble_eq_true rfl⟩) ?_
  refine W.eq (g2 := F0 m 39 ls [.int (f_X2_bits p0 (30 : Int32) (21 : Int32)), .int ((((p0 >>> ((31 : Int32) &&& 31)) <<< ((20 : Int32) &&& 31)) ||| ((f_X2_bits p0 (19 : Int32) (12 : Int32)) <<< ((12 : Int32) &&& 31))) ||| ((f_X2_bits p0 (20 : Int32) (20 : Int32)) <<< ((11 : Int32) &&& 31)))]) rfl ?_
  refine lv_iconst (v := (1 : Int32)) hx hb dX2_immediateJ_39 (by decide) ?_
  refine lv_ishl hx hb dX2_immediateJ_40 ?_
  refine lv_ior hx hb dX2_immediateJ_41 ?_
  have hF : f_X2_immediateJ p0 = (((((p0 >>> ((31 : Int32) &&& 31)) <<< ((20 : Int32) &&& 31)) ||| ((f_X2_bits p0 (19 : Int32) (12 : Int32)) <<< ((12 : Int32) &&& 31))) ||| ((f_X2_bits p0 (20 : Int32) (20 : Int32)) <<< ((11 : Int32) &&& 31))) ||| ((f_X2_bits p0 (30 : Int32) (21 : Int32)) <<< ((1 : Int32) &&& 31))) := rfl
  exact W.iret (v := (((((p0 >>> ((31 : Int32) &&& 31)) <<< ((20 : Int32) &&& 31)) ||| ((f_X2_bits p0 (19 : Int32) (12 : Int32)) <<< ((12 : Int32) &&& 31))) ||| ((f_X2_bits p0 (20 : Int32) (20 : Int32)) <<< ((11 : Int32) &&& 31))) ||| ((f_X2_bits p0 (30 : Int32) (21 : Int32)) <<< ((1 : Int32) &&& 31)))) hx hb hr (fun t ht hW => ⟨by rw [hF], ht⟩) (fun _ h => by cases h) dX2_immediateJ_42
