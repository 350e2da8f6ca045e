def j_R_hitsAtZero (n : Int32) : Int32 := if n < 0 then (1 - n) / 2 else n / 2
set_option maxHeartbeats 4000000 in
set_option maxRecDepth 100000 in
theorem c_R_hitsAtZero (l : Launch) (n : Int32) : Met l y_R_hitsAtZero w_R_hitsAtZero ({ frames := 0, cells := 0, slots := 0, locals := 0 }) (st_P [.int n]) (k2_QcV (.int (j_R_hitsAtZero n))) 0 0 (fun _ => False) := by
  refine Met.ofW (cc := b_R_hitsAtZero) (maxL := 1) (ret := (some .int)) (by decide) rfl ?_
  intro p e s m args below meth c s₁ B hml hv
  obtain ⟨rfl, -⟩ := hv
  have hx := B.exec
  have hb := B.bytes
  have hr := B.returns
  have hts := atoms_spec (ws := w_R_hitsAtZero) B.pre
  have hown : s.vm.findClass "RoomEchoes" = some m.cls := findClass_of_methodNamed B.named
  have hlocks := B.notSynchronized
  have hl := lv_entry ([.int n]) (n := 1) (Nat.le_of_ble_eq_true rfl)
  rw [lg_entry_eq]
  generalize (lg_sl ([.int n]) ++ List.replicate (1 - (lg_sl ([.int n])).length) Slot.unset).toArray = ls at hl ⊢
  have hl : lv_has ls 1 [(0, .int n)] := hl
  refine lv_iload_n hx hb d_R_hitsAtZero_0 rfl (lv_at hl 0 rfl) ?_
  refine lv_if_lt (tgt := 10) hx hb d_R_hitsAtZero_1 (by decide) (fun c_1 => ?_) (fun c_1 => ?_)
  · skip
    refine lv_iconst (v := 1) hx hb d_R_hitsAtZero_10 (by decide) ?_
    refine lv_iload_n hx hb d_R_hitsAtZero_11 rfl (lv_at hl 0 rfl) ?_
    refine lv_isub hx hb d_R_hitsAtZero_12 ?_
    refine lv_iconst (v := 2) hx hb d_R_hitsAtZero_13 (by decide) ?_
    refine lv_idiv hx hb d_R_hitsAtZero_14 (by decide) ?_
    exact W.iret (v := (1 - n) / 2) hx hb hr (fun t ht hW => ⟨congrArg (fun z => Outcome.returned (some (Value.int z))) (by unfold j_R_hitsAtZero; rw [if_pos c_1]), ht⟩) (fun q h => by cases h) d_R_hitsAtZero_15
  · skip
    refine lv_iload_n hx hb d_R_hitsAtZero_4 rfl (lv_at hl 0 rfl) ?_
    refine lv_iconst (v := 2) hx hb d_R_hitsAtZero_5 (by decide) ?_
    refine lv_idiv hx hb d_R_hitsAtZero_6 (by decide) ?_
    refine lv_goto (tgt := 15) hx hb d_R_hitsAtZero_7 (by decide) ?_
    exact W.iret (v := n / 2) hx hb hr (fun t ht hW => ⟨congrArg (fun z => Outcome.returned (some (Value.int z))) (by unfold j_R_hitsAtZero; rw [if_neg c_1]), ht⟩) (fun q h => by cases h) d_R_hitsAtZero_15

def j_R_hitsAtSize (n : Int32) : Int32 := if n < 0 then (-n) / 2 else (n + 1) / 2
set_option maxHeartbeats 4000000 in
set_option maxRecDepth 100000 in
theorem c_R_hitsAtSize (l : Launch) (n : Int32) : Met l y_R_hitsAtSize w_R_hitsAtSize ({ frames := 0, cells := 0, slots := 0, locals := 0 }) (st_P [.int n]) (k2_QcV (.int (j_R_hitsAtSize n))) 0 0 (fun _ => False) := by
  refine Met.ofW (cc := b_R_hitsAtSize) (maxL := 1) (ret := (some .int)) (by decide) rfl ?_
  intro p e s m args below meth c s₁ B hml hv
  obtain ⟨rfl, -⟩ := hv
  have hx := B.exec
  have hb := B.bytes
  have hr := B.returns
  have hts := atoms_spec (ws := w_R_hitsAtSize) B.pre
  have hown : s.vm.findClass "RoomEchoes" = some m.cls := findClass_of_methodNamed B.named
  have hlocks := B.notSynchronized
  have hl := lv_entry ([.int n]) (n := 1) (Nat.le_of_ble_eq_true rfl)
  rw [lg_entry_eq]
  generalize (lg_sl ([.int n]) ++ List.replicate (1 - (lg_sl ([.int n])).length) Slot.unset).toArray = ls at hl ⊢
  have hl : lv_has ls 1 [(0, .int n)] := hl
  refine lv_iload_n hx hb d_R_hitsAtSize_0 rfl (lv_at hl 0 rfl) ?_
  refine lv_if_lt (tgt := 12) hx hb d_R_hitsAtSize_1 (by decide) (fun c_1 => ?_) (fun c_1 => ?_)
  · skip
    refine lv_iload_n hx hb d_R_hitsAtSize_12 rfl (lv_at hl 0 rfl) ?_
    refine lv_ineg hx hb d_R_hitsAtSize_13 ?_
    refine lv_iconst (v := 2) hx hb d_R_hitsAtSize_14 (by decide) ?_
    refine lv_idiv hx hb d_R_hitsAtSize_15 (by decide) ?_
    exact W.iret (v := (-n) / 2) hx hb hr (fun t ht hW => ⟨congrArg (fun z => Outcome.returned (some (Value.int z))) (by unfold j_R_hitsAtSize; rw [if_pos c_1]), ht⟩) (fun q h => by cases h) d_R_hitsAtSize_16
  · skip
    refine lv_iload_n hx hb d_R_hitsAtSize_4 rfl (lv_at hl 0 rfl) ?_
    refine lv_iconst (v := 1) hx hb d_R_hitsAtSize_5 (by decide) ?_
    refine lv_iadd hx hb d_R_hitsAtSize_6 ?_
    refine lv_iconst (v := 2) hx hb d_R_hitsAtSize_7 (by decide) ?_
    refine lv_idiv hx hb d_R_hitsAtSize_8 (by decide) ?_
    refine lv_goto (tgt := 16) hx hb d_R_hitsAtSize_9 (by decide) ?_
    exact W.iret (v := (n + 1) / 2) hx hb hr (fun t ht hW => ⟨congrArg (fun z => Outcome.returned (some (Value.int z))) (by unfold j_R_hitsAtSize; rw [if_neg c_1]), ht⟩) (fun q h => by cases h) d_R_hitsAtSize_16

def j_R_hitsOn (n : Int32) : Int32 := (j_R_hitsAtZero n) + (j_R_hitsAtSize n)
set_option maxHeartbeats 4000000 in
set_option maxRecDepth 100000 in
theorem c_R_hitsOn (l : Launch) (n : Int32) : Met l y_R_hitsOn w_R_hitsOn ({ frames := 1, cells := 0, slots := 0, locals := 20 }) (st_P [.int n]) (k2_QcV (.int (j_R_hitsOn n))) 0 0 (fun _ => False) := by
  refine Met.ofW (cc := b_R_hitsOn) (maxL := 1) (ret := (some .int)) (by decide) rfl ?_
  intro p e s m args below meth c s₁ B hml hv
  obtain ⟨rfl, -⟩ := hv
  have hx := B.exec
  have hb := B.bytes
  have hr := B.returns
  have hts := atoms_spec (ws := w_R_hitsOn) B.pre
  have hown : s.vm.findClass "RoomEchoes" = some m.cls := findClass_of_methodNamed B.named
  have hlocks := B.notSynchronized
  have hl := lv_entry ([.int n]) (n := 1) (Nat.le_of_ble_eq_true rfl)
  rw [lg_entry_eq]
  generalize (lg_sl ([.int n]) ++ List.replicate (1 - (lg_sl ([.int n])).length) Slot.unset).toArray = ls at hl ⊢
  have hl : lv_has ls 1 [(0, .int n)] := hl
  refine lv_iload_n hx hb d_R_hitsOn_0 rfl (lv_at hl 0 rfl) ?_
  refine rd_c (va_runS (As := [.int n]) (rest := []) ⟨hx, hb, hml, hown, hts⟩ (c_R_hitsAtZero l n) (cwS 1 hts (gi_S mw257 mw255 mw256 mw29) rfl rfl rfl (by decide +kernel) ⟨Nat.le_of_ble_eq_true rfl, Nat.le_of_ble_eq_true rfl⟩) st_S rfl rfl hl.1 rfl (lv_room (Nat.le_of_ble_eq_true rfl)) d_R_hitsOn_1 ⟨Nat.le_of_ble_eq_true rfl, Nat.le_of_ble_eq_true rfl⟩) ?_
  refine lv_iload_n hx hb d_R_hitsOn_4 rfl (lv_at hl 0 rfl) ?_
  refine rd_c (va_runS (As := [.int n]) (rest := [.int (j_R_hitsAtZero n)]) ⟨hx, hb, hml, hown, hts⟩ (c_R_hitsAtSize l n) (cwS 1 hts (gi_S mw264 mw262 mw263 mw29) rfl rfl rfl (by decide +kernel) ⟨Nat.le_of_ble_eq_true rfl, Nat.le_of_ble_eq_true rfl⟩) st_S rfl rfl hl.1 rfl (lv_room (Nat.le_of_ble_eq_true rfl)) d_R_hitsOn_5 ⟨Nat.le_of_ble_eq_true rfl, Nat.le_of_ble_eq_true rfl⟩) ?_
  refine lv_iadd hx hb d_R_hitsOn_8 ?_
  exact W.iret (v := (j_R_hitsAtZero n) + (j_R_hitsAtSize n)) hx hb hr (fun t ht hW => ⟨congrArg (fun z => Outcome.returned (some (Value.int z))) (by unfold j_R_hitsOn; rfl), ht⟩) (fun q h => by cases h) d_R_hitsOn_9

def j_R_hitsOf (a : Int32) (b : Int32) (c9 : Int32) : Int32 := ((j_R_hitsOn a) + (j_R_hitsOn b)) + (j_R_hitsOn c9)
set_option maxHeartbeats 4000000 in
set_option maxRecDepth 100000 in
theorem c_R_hitsOf (l : Launch) (a : Int32) (b : Int32) (c9 : Int32) : Met l y_R_hitsOf w_R_hitsOf ({ frames := 2, cells := 0, slots := 0, locals := 40 }) (st_P [.int a, .int b, .int c9]) (k2_QcV (.int (j_R_hitsOf a b c9))) 0 0 (fun _ => False) := by
  refine Met.ofW (cc := b_R_hitsOf) (maxL := 3) (ret := (some .int)) (by decide) rfl ?_
  intro p e s m args below meth c s₁ B hml hv
  obtain ⟨rfl, -⟩ := hv
  have hx := B.exec
  have hb := B.bytes
  have hr := B.returns
  have hts := atoms_spec (ws := w_R_hitsOf) B.pre
  have hown : s.vm.findClass "RoomEchoes" = some m.cls := findClass_of_methodNamed B.named
  have hlocks := B.notSynchronized
  have hl := lv_entry ([.int a, .int b, .int c9]) (n := 3) (Nat.le_of_ble_eq_true rfl)
  rw [lg_entry_eq]
  generalize (lg_sl ([.int a, .int b, .int c9]) ++ List.replicate (3 - (lg_sl ([.int a, .int b, .int c9])).length) Slot.unset).toArray = ls at hl ⊢
  have hl : lv_has ls 3 [(0, .int a), (1, .int b), (2, .int c9)] := hl
  refine lv_iload_n hx hb d_R_hitsOf_0 rfl (lv_at hl 0 rfl) ?_
  refine rd_c (va_runS (As := [.int a]) (rest := []) ⟨hx, hb, hml, hown, hts⟩ (c_R_hitsOn l a) (cwS 1 hts (gi_S mw273 mw271 mw272 mw29) rfl rfl rfl (by decide +kernel) ⟨Nat.le_of_ble_eq_true rfl, Nat.le_of_ble_eq_true rfl⟩) st_S rfl rfl hl.1 rfl (lv_room (Nat.le_of_ble_eq_true rfl)) d_R_hitsOf_1 ⟨Nat.le_of_ble_eq_true rfl, Nat.le_of_ble_eq_true rfl⟩) ?_
  refine lv_iload_n hx hb d_R_hitsOf_4 rfl (lv_at hl 1 rfl) ?_
  refine rd_c (va_runS (As := [.int b]) (rest := [.int (j_R_hitsOn a)]) ⟨hx, hb, hml, hown, hts⟩ (c_R_hitsOn l b) (cwS 1 hts (gi_S mw273 mw271 mw272 mw29) rfl rfl rfl (by decide +kernel) ⟨Nat.le_of_ble_eq_true rfl, Nat.le_of_ble_eq_true rfl⟩) st_S rfl rfl hl.1 rfl (lv_room (Nat.le_of_ble_eq_true rfl)) d_R_hitsOf_5 ⟨Nat.le_of_ble_eq_true rfl, Nat.le_of_ble_eq_true rfl⟩) ?_
  refine lv_iadd hx hb d_R_hitsOf_8 ?_
  refine lv_iload_n hx hb d_R_hitsOf_9 rfl (lv_at hl 2 rfl) ?_
  refine rd_c (va_runS (As := [.int c9]) (rest := [.int ((j_R_hitsOn a) + (j_R_hitsOn b))]) ⟨hx, hb, hml, hown, hts⟩ (c_R_hitsOn l c9) (cwS 1 hts (gi_S mw273 mw271 mw272 mw29) rfl rfl rfl (by decide +kernel) ⟨Nat.le_of_ble_eq_true rfl, Nat.le_of_ble_eq_true rfl⟩) st_S rfl rfl hl.1 rfl (lv_room (Nat.le_of_ble_eq_true rfl)) d_R_hitsOf_10 ⟨Nat.le_of_ble_eq_true rfl, Nat.le_of_ble_eq_true rfl⟩) ?_
  refine lv_iadd hx hb d_R_hitsOf_13 ?_
  exact W.iret (v := ((j_R_hitsOn a) + (j_R_hitsOn b)) + (j_R_hitsOn c9)) hx hb hr (fun t ht hW => ⟨congrArg (fun z => Outcome.returned (some (Value.int z))) (by unfold j_R_hitsOf; rfl), ht⟩) (fun q h => by cases h) d_R_hitsOf_14

def j_R_loudnessOf (g : Int64) (d : Int64) : Int64 := if (1 + d) ≤ 0 then 0 else g / (1 + d)
set_option maxHeartbeats 4000000 in
set_option maxRecDepth 100000 in
theorem c_R_loudnessOf (l : Launch) (g : Int64) (d : Int64) : Met l y_R_loudnessOf w_R_loudnessOf ({ frames := 0, cells := 0, slots := 0, locals := 0 }) (st_P [.long g, .long d]) (k2_QcV (.long (j_R_loudnessOf g d))) 0 0 (fun _ => False) := by
  refine Met.ofW (cc := b_R_loudnessOf) (maxL := 6) (ret := (some .long)) (by decide) rfl ?_
  intro p e s m args below meth c s₁ B hml hv
  obtain ⟨rfl, -⟩ := hv
  have hx := B.exec
  have hb := B.bytes
  have hr := B.returns
  have hts := atoms_spec (ws := w_R_loudnessOf) B.pre
  have hown : s.vm.findClass "RoomEchoes" = some m.cls := findClass_of_methodNamed B.named
  have hlocks := B.notSynchronized
  have hl := lv_entry ([.long g, .long d]) (n := 6) (Nat.le_of_ble_eq_true rfl)
  rw [lg_entry_eq]
  generalize (lg_sl ([.long g, .long d]) ++ List.replicate (6 - (lg_sl ([.long g, .long d])).length) Slot.unset).toArray = ls at hl ⊢
  have hl : lv_has ls 6 [(0, .long g), (2, .long d)] := hl
  refine lv_lconst (v := 1) hx hb d_R_loudnessOf_0 (by decide) ?_
  refine lv_lload_n hx hb d_R_loudnessOf_1 rfl (lv_at hl 1 rfl) ?_
  refine lv_ladd hx hb d_R_loudnessOf_2 ?_
  refine lv_lstore (lv' := [(4, .long (1 + d)), (0, .long g), (2, .long d)]) hx hb d_R_loudnessOf_3 hl (by decide) rfl (fun ls hl => ?_)
  refine lv_lload hx hb d_R_loudnessOf_5 (lv_at hl 0 rfl) ?_
  refine lv_lconst (v := 0) hx hb d_R_loudnessOf_7 (by decide) ?_
  refine W.lcmp hx hb d_R_loudnessOf_8 ?_
  refine lv_if_le (tgt := 19) hx hb d_R_loudnessOf_9 (by decide) (fun c_9 => ?_) (fun c_9 => ?_)
  · rw [lg_cmp_le] at c_9
    refine lv_lconst (v := 0) hx hb d_R_loudnessOf_19 (by decide) ?_
    exact W.lret (v := 0) hx hb hr (fun t ht hW => ⟨congrArg (fun z => Outcome.returned (some (Value.long z))) (by unfold j_R_loudnessOf; rw [if_pos c_9]), ht⟩) (fun q h => by cases h) d_R_loudnessOf_20
  · rw [lg_cmp_le] at c_9
    refine lv_lload_n hx hb d_R_loudnessOf_12 rfl (lv_at hl 1 rfl) ?_
    refine lv_lload hx hb d_R_loudnessOf_13 (lv_at hl 0 rfl) ?_
    refine lv_ldiv hx hb d_R_loudnessOf_15 (fun h9 => c_9 (by rw [h9]; decide)) ?_
    refine lv_goto (tgt := 20) hx hb d_R_loudnessOf_16 (by decide) ?_
    exact W.lret (v := g / (1 + d)) hx hb hr (fun t ht hW => ⟨congrArg (fun z => Outcome.returned (some (Value.long z))) (by unfold j_R_loudnessOf; rw [if_neg c_9]), ht⟩) (fun q h => by cases h) d_R_loudnessOf_20

def j_R_withNumberBelow (u : Int64) (n : Int32) : Int64 := (u <<< ((7 : Int32).toInt64 &&& 63)) ||| ((n + 40).toInt64)
set_option maxHeartbeats 4000000 in
set_option maxRecDepth 100000 in
theorem c_R_withNumberBelow (l : Launch) (u : Int64) (n : Int32) : Met l y_R_withNumberBelow w_R_withNumberBelow ({ frames := 0, cells := 0, slots := 0, locals := 0 }) (st_P [.long u, .int n]) (k2_QcV (.long (j_R_withNumberBelow u n))) 0 0 (fun _ => False) := by
  refine Met.ofW (cc := b_R_withNumberBelow) (maxL := 3) (ret := (some .long)) (by decide) rfl ?_
  intro p e s m args below meth c s₁ B hml hv
  obtain ⟨rfl, -⟩ := hv
  have hx := B.exec
  have hb := B.bytes
  have hr := B.returns
  have hts := atoms_spec (ws := w_R_withNumberBelow) B.pre
  have hown : s.vm.findClass "RoomEchoes" = some m.cls := findClass_of_methodNamed B.named
  have hlocks := B.notSynchronized
  have hl := lv_entry ([.long u, .int n]) (n := 3) (Nat.le_of_ble_eq_true rfl)
  rw [lg_entry_eq]
  generalize (lg_sl ([.long u, .int n]) ++ List.replicate (3 - (lg_sl ([.long u, .int n])).length) Slot.unset).toArray = ls at hl ⊢
  have hl : lv_has ls 3 [(0, .long u), (2, .int n)] := hl
  refine lv_lload_n hx hb d_R_withNumberBelow_0 rfl (lv_at hl 0 rfl) ?_
  refine lv_bipush (v := 7) hx hb d_R_withNumberBelow_1 (by decide) ?_
  refine lv_lshl hx hb d_R_withNumberBelow_3 rfl ?_
  refine lv_iload_n hx hb d_R_withNumberBelow_4 rfl (lv_at hl 1 rfl) ?_
  refine lv_bipush (v := 40) hx hb d_R_withNumberBelow_5 (by decide) ?_
  refine lv_iadd hx hb d_R_withNumberBelow_7 ?_
  refine lv_i2l hx hb d_R_withNumberBelow_8 rfl ?_
  refine lv_lor hx hb d_R_withNumberBelow_9 ?_
  exact W.lret (v := (u <<< ((7 : Int32).toInt64 &&& 63)) ||| ((n + 40).toInt64)) hx hb hr (fun t ht hW => ⟨congrArg (fun z => Outcome.returned (some (Value.long z))) (by unfold j_R_withNumberBelow; rfl), ht⟩) (fun q h => by cases h) d_R_withNumberBelow_10

def j_R_keyOf (d : Int64) (a : Int32) (b : Int32) (c9 : Int32) : Int64 := j_R_withNumberBelow (j_R_withNumberBelow (j_R_withNumberBelow d a) b) c9
set_option maxHeartbeats 4000000 in
set_option maxRecDepth 100000 in
theorem c_R_keyOf (l : Launch) (d : Int64) (a : Int32) (b : Int32) (c9 : Int32) : Met l y_R_keyOf w_R_keyOf ({ frames := 1, cells := 0, slots := 0, locals := 22 }) (st_P [.long d, .int a, .int b, .int c9]) (k2_QcV (.long (j_R_keyOf d a b c9))) 0 0 (fun _ => False) := by
  refine Met.ofW (cc := b_R_keyOf) (maxL := 7) (ret := (some .long)) (by decide) rfl ?_
  intro p e s m args below meth c s₁ B hml hv
  obtain ⟨rfl, -⟩ := hv
  have hx := B.exec
  have hb := B.bytes
  have hr := B.returns
  have hts := atoms_spec (ws := w_R_keyOf) B.pre
  have hown : s.vm.findClass "RoomEchoes" = some m.cls := findClass_of_methodNamed B.named
  have hlocks := B.notSynchronized
  have hl := lv_entry ([.long d, .int a, .int b, .int c9]) (n := 7) (Nat.le_of_ble_eq_true rfl)
  rw [lg_entry_eq]
  generalize (lg_sl ([.long d, .int a, .int b, .int c9]) ++ List.replicate (7 - (lg_sl ([.long d, .int a, .int b, .int c9])).length) Slot.unset).toArray = ls at hl ⊢
  have hl : lv_has ls 7 [(0, .long d), (2, .int a), (3, .int b), (4, .int c9)] := hl
  refine lv_lload_n hx hb d_R_keyOf_0 rfl (lv_at hl 0 rfl) ?_
  refine lv_iload_n hx hb d_R_keyOf_1 rfl (lv_at hl 1 rfl) ?_
  refine rd_c (va_runS (As := [.long d, .int a]) (rest := []) ⟨hx, hb, hml, hown, hts⟩ (c_R_withNumberBelow l d a) (cwS 2 hts (gi_S mw296 mw321 mw295 mw29) rfl rfl rfl (by decide +kernel) ⟨Nat.le_of_ble_eq_true rfl, Nat.le_of_ble_eq_true rfl⟩) st_S rfl rfl hl.1 rfl (lv_room (Nat.le_of_ble_eq_true rfl)) d_R_keyOf_2 ⟨Nat.le_of_ble_eq_true rfl, Nat.le_of_ble_eq_true rfl⟩) ?_
  refine lv_lstore (lv' := [(5, .long (j_R_withNumberBelow d a)), (0, .long d), (2, .int a), (3, .int b), (4, .int c9)]) hx hb d_R_keyOf_5 hl (by decide) rfl (fun ls hl => ?_)
  refine lv_lload hx hb d_R_keyOf_7 (lv_at hl 0 rfl) ?_
  refine lv_iload_n hx hb d_R_keyOf_9 rfl (lv_at hl 3 rfl) ?_
  refine rd_c (va_runS (As := [.long (j_R_withNumberBelow d a), .int b]) (rest := []) ⟨hx, hb, hml, hown, hts⟩ (c_R_withNumberBelow l (j_R_withNumberBelow d a) b) (cwS 2 hts (gi_S mw296 mw321 mw295 mw29) rfl rfl rfl (by decide +kernel) ⟨Nat.le_of_ble_eq_true rfl, Nat.le_of_ble_eq_true rfl⟩) st_S rfl rfl hl.1 rfl (lv_room (Nat.le_of_ble_eq_true rfl)) d_R_keyOf_10 ⟨Nat.le_of_ble_eq_true rfl, Nat.le_of_ble_eq_true rfl⟩) ?_
  refine lv_lstore (lv' := [(5, .long (j_R_withNumberBelow (j_R_withNumberBelow d a) b)), (0, .long d), (2, .int a), (3, .int b), (4, .int c9)]) hx hb d_R_keyOf_13 hl (by decide) rfl (fun ls hl => ?_)
  refine lv_lload hx hb d_R_keyOf_15 (lv_at hl 0 rfl) ?_
  refine lv_iload hx hb d_R_keyOf_17 (lv_at hl 4 rfl) ?_
  refine rd_c (va_runS (As := [.long (j_R_withNumberBelow (j_R_withNumberBelow d a) b), .int c9]) (rest := []) ⟨hx, hb, hml, hown, hts⟩ (c_R_withNumberBelow l (j_R_withNumberBelow (j_R_withNumberBelow d a) b) c9) (cwS 2 hts (gi_S mw296 mw321 mw295 mw29) rfl rfl rfl (by decide +kernel) ⟨Nat.le_of_ble_eq_true rfl, Nat.le_of_ble_eq_true rfl⟩) st_S rfl rfl hl.1 rfl (lv_room (Nat.le_of_ble_eq_true rfl)) d_R_keyOf_19 ⟨Nat.le_of_ble_eq_true rfl, Nat.le_of_ble_eq_true rfl⟩) ?_
  exact W.lret (v := j_R_withNumberBelow (j_R_withNumberBelow (j_R_withNumberBelow d a) b) c9) hx hb hr (fun t ht hW => ⟨congrArg (fun z => Outcome.returned (some (Value.long z))) (by unfold j_R_keyOf; rfl), ht⟩) (fun q h => by cases h) d_R_keyOf_22

def j_R_lowestNumberIn (k : Int64) : Int32 := ((k &&& 127).toInt32) - 40
set_option maxHeartbeats 4000000 in
set_option maxRecDepth 100000 in
theorem c_R_lowestNumberIn (l : Launch) (k : Int64) : Met l y_R_lowestNumberIn w_R_lowestNumberIn ({ frames := 0, cells := 0, slots := 0, locals := 0 }) (st_P [.long k]) (k2_QcV (.int (j_R_lowestNumberIn k))) 0 0 (fun _ => False) := by
  refine Met.ofW (cc := b_R_lowestNumberIn) (maxL := 2) (ret := (some .int)) (by decide) rfl ?_
  intro p e s m args below meth c s₁ B hml hv
  obtain ⟨rfl, -⟩ := hv
  have hx := B.exec
  have hb := B.bytes
  have hr := B.returns
  have hts := atoms_spec (ws := w_R_lowestNumberIn) B.pre
  have hown : s.vm.findClass "RoomEchoes" = some m.cls := findClass_of_methodNamed B.named
  have hlocks := B.notSynchronized
  have hl := lv_entry ([.long k]) (n := 2) (Nat.le_of_ble_eq_true rfl)
  rw [lg_entry_eq]
  generalize (lg_sl ([.long k]) ++ List.replicate (2 - (lg_sl ([.long k])).length) Slot.unset).toArray = ls at hl ⊢
  have hl : lv_has ls 2 [(0, .long k)] := hl
  refine lv_lload_n hx hb d_R_lowestNumberIn_0 rfl (lv_at hl 0 rfl) ?_
  refine lv_ldc2 (v := 127) hx hb hown (ht_ hts mw304) d_R_lowestNumberIn_1 ?_
  refine lv_land hx hb d_R_lowestNumberIn_4 ?_
  refine lv_l2i hx hb d_R_lowestNumberIn_5 rfl ?_
  refine lv_bipush (v := 40) hx hb d_R_lowestNumberIn_6 (by decide) ?_
  refine lv_isub hx hb d_R_lowestNumberIn_8 ?_
  exact W.iret (v := ((k &&& 127).toInt32) - 40) hx hb hr (fun t ht hW => ⟨congrArg (fun z => Outcome.returned (some (Value.int z))) (by unfold j_R_lowestNumberIn; rfl), ht⟩) (fun q h => by cases h) d_R_lowestNumberIn_9

def j_R_distanceIn (k : Int64) : Int64 := k >>> ((21 : Int32).toInt64 &&& 63)
set_option maxHeartbeats 4000000 in
set_option maxRecDepth 100000 in
theorem c_R_distanceIn (l : Launch) (k : Int64) : Met l y_R_distanceIn w_R_distanceIn ({ frames := 0, cells := 0, slots := 0, locals := 0 }) (st_P [.long k]) (k2_QcV (.long (j_R_distanceIn k))) 0 0 (fun _ => False) := by
  refine Met.ofW (cc := b_R_distanceIn) (maxL := 2) (ret := (some .long)) (by decide) rfl ?_
  intro p e s m args below meth c s₁ B hml hv
  obtain ⟨rfl, -⟩ := hv
  have hx := B.exec
  have hb := B.bytes
  have hr := B.returns
  have hts := atoms_spec (ws := w_R_distanceIn) B.pre
  have hown : s.vm.findClass "RoomEchoes" = some m.cls := findClass_of_methodNamed B.named
  have hlocks := B.notSynchronized
  have hl := lv_entry ([.long k]) (n := 2) (Nat.le_of_ble_eq_true rfl)
  rw [lg_entry_eq]
  generalize (lg_sl ([.long k]) ++ List.replicate (2 - (lg_sl ([.long k])).length) Slot.unset).toArray = ls at hl ⊢
  have hl : lv_has ls 2 [(0, .long k)] := hl
  refine lv_lload_n hx hb d_R_distanceIn_0 rfl (lv_at hl 0 rfl) ?_
  refine lv_bipush (v := 21) hx hb d_R_distanceIn_1 (by decide) ?_
  refine lv_lshr hx hb d_R_distanceIn_3 rfl ?_
  exact W.lret (v := k >>> ((21 : Int32).toInt64 &&& 63)) hx hb hr (fun t ht hW => ⟨congrArg (fun z => Outcome.returned (some (Value.long z))) (by unfold j_R_distanceIn; rfl), ht⟩) (fun q h => by cases h) d_R_distanceIn_4

def j_R_firstNumberIn (k : Int64) : Int32 := j_R_lowestNumberIn (k >>> ((14 : Int32).toInt64 &&& 63))
set_option maxHeartbeats 4000000 in
set_option maxRecDepth 100000 in
theorem c_R_firstNumberIn (l : Launch) (k : Int64) : Met l y_R_firstNumberIn w_R_firstNumberIn ({ frames := 1, cells := 0, slots := 0, locals := 21 }) (st_P [.long k]) (k2_QcV (.int (j_R_firstNumberIn k))) 0 0 (fun _ => False) := by
  refine Met.ofW (cc := b_R_firstNumberIn) (maxL := 2) (ret := (some .int)) (by decide) rfl ?_
  intro p e s m args below meth c s₁ B hml hv
  obtain ⟨rfl, -⟩ := hv
  have hx := B.exec
  have hb := B.bytes
  have hr := B.returns
  have hts := atoms_spec (ws := w_R_firstNumberIn) B.pre
  have hown : s.vm.findClass "RoomEchoes" = some m.cls := findClass_of_methodNamed B.named
  have hlocks := B.notSynchronized
  have hl := lv_entry ([.long k]) (n := 2) (Nat.le_of_ble_eq_true rfl)
  rw [lg_entry_eq]
  generalize (lg_sl ([.long k]) ++ List.replicate (2 - (lg_sl ([.long k])).length) Slot.unset).toArray = ls at hl ⊢
  have hl : lv_has ls 2 [(0, .long k)] := hl
  refine lv_lload_n hx hb d_R_firstNumberIn_0 rfl (lv_at hl 0 rfl) ?_
  refine lv_bipush (v := 14) hx hb d_R_firstNumberIn_1 (by decide) ?_
  refine lv_lshr hx hb d_R_firstNumberIn_3 rfl ?_
  refine rd_c (va_runS (As := [.long (k >>> ((14 : Int32).toInt64 &&& 63))]) (rest := []) ⟨hx, hb, hml, hown, hts⟩ (c_R_lowestNumberIn l (k >>> ((14 : Int32).toInt64 &&& 63))) (cwS 1 hts (gi_S mw303 mw341 mw302 mw29) rfl rfl rfl (by decide +kernel) ⟨Nat.le_of_ble_eq_true rfl, Nat.le_of_ble_eq_true rfl⟩) st_S rfl rfl hl.1 rfl (lv_room (Nat.le_of_ble_eq_true rfl)) d_R_firstNumberIn_4 ⟨Nat.le_of_ble_eq_true rfl, Nat.le_of_ble_eq_true rfl⟩) ?_
  exact W.iret (v := j_R_lowestNumberIn (k >>> ((14 : Int32).toInt64 &&& 63))) hx hb hr (fun t ht hW => ⟨congrArg (fun z => Outcome.returned (some (Value.int z))) (by unfold j_R_firstNumberIn; rfl), ht⟩) (fun q h => by cases h) d_R_firstNumberIn_7

def j_R_secondNumberIn (k : Int64) : Int32 := j_R_lowestNumberIn (k >>> ((7 : Int32).toInt64 &&& 63))
set_option maxHeartbeats 4000000 in
set_option maxRecDepth 100000 in
theorem c_R_secondNumberIn (l : Launch) (k : Int64) : Met l y_R_secondNumberIn w_R_secondNumberIn ({ frames := 1, cells := 0, slots := 0, locals := 21 }) (st_P [.long k]) (k2_QcV (.int (j_R_secondNumberIn k))) 0 0 (fun _ => False) := by
  refine Met.ofW (cc := b_R_secondNumberIn) (maxL := 2) (ret := (some .int)) (by decide) rfl ?_
  intro p e s m args below meth c s₁ B hml hv
  obtain ⟨rfl, -⟩ := hv
  have hx := B.exec
  have hb := B.bytes
  have hr := B.returns
  have hts := atoms_spec (ws := w_R_secondNumberIn) B.pre
  have hown : s.vm.findClass "RoomEchoes" = some m.cls := findClass_of_methodNamed B.named
  have hlocks := B.notSynchronized
  have hl := lv_entry ([.long k]) (n := 2) (Nat.le_of_ble_eq_true rfl)
  rw [lg_entry_eq]
  generalize (lg_sl ([.long k]) ++ List.replicate (2 - (lg_sl ([.long k])).length) Slot.unset).toArray = ls at hl ⊢
  have hl : lv_has ls 2 [(0, .long k)] := hl
  refine lv_lload_n hx hb d_R_secondNumberIn_0 rfl (lv_at hl 0 rfl) ?_
  refine lv_bipush (v := 7) hx hb d_R_secondNumberIn_1 (by decide) ?_
  refine lv_lshr hx hb d_R_secondNumberIn_3 rfl ?_
  refine rd_c (va_runS (As := [.long (k >>> ((7 : Int32).toInt64 &&& 63))]) (rest := []) ⟨hx, hb, hml, hown, hts⟩ (c_R_lowestNumberIn l (k >>> ((7 : Int32).toInt64 &&& 63))) (cwS 1 hts (gi_S mw303 mw341 mw302 mw29) rfl rfl rfl (by decide +kernel) ⟨Nat.le_of_ble_eq_true rfl, Nat.le_of_ble_eq_true rfl⟩) st_S rfl rfl hl.1 rfl (lv_room (Nat.le_of_ble_eq_true rfl)) d_R_secondNumberIn_4 ⟨Nat.le_of_ble_eq_true rfl, Nat.le_of_ble_eq_true rfl⟩) ?_
  exact W.iret (v := j_R_lowestNumberIn (k >>> ((7 : Int32).toInt64 &&& 63))) hx hb hr (fun t ht hW => ⟨congrArg (fun z => Outcome.returned (some (Value.int z))) (by unfold j_R_secondNumberIn; rfl), ht⟩) (fun q h => by cases h) d_R_secondNumberIn_7

def j_R_thirdNumberIn (k : Int64) : Int32 := j_R_lowestNumberIn k
set_option maxHeartbeats 4000000 in
set_option maxRecDepth 100000 in
theorem c_R_thirdNumberIn (l : Launch) (k : Int64) : Met l y_R_thirdNumberIn w_R_thirdNumberIn ({ frames := 1, cells := 0, slots := 0, locals := 21 }) (st_P [.long k]) (k2_QcV (.int (j_R_thirdNumberIn k))) 0 0 (fun _ => False) := by
  refine Met.ofW (cc := b_R_thirdNumberIn) (maxL := 2) (ret := (some .int)) (by decide) rfl ?_
  intro p e s m args below meth c s₁ B hml hv
  obtain ⟨rfl, -⟩ := hv
  have hx := B.exec
  have hb := B.bytes
  have hr := B.returns
  have hts := atoms_spec (ws := w_R_thirdNumberIn) B.pre
  have hown : s.vm.findClass "RoomEchoes" = some m.cls := findClass_of_methodNamed B.named
  have hlocks := B.notSynchronized
  have hl := lv_entry ([.long k]) (n := 2) (Nat.le_of_ble_eq_true rfl)
  rw [lg_entry_eq]
  generalize (lg_sl ([.long k]) ++ List.replicate (2 - (lg_sl ([.long k])).length) Slot.unset).toArray = ls at hl ⊢
  have hl : lv_has ls 2 [(0, .long k)] := hl
  refine lv_lload_n hx hb d_R_thirdNumberIn_0 rfl (lv_at hl 0 rfl) ?_
  refine rd_c (va_runS (As := [.long k]) (rest := []) ⟨hx, hb, hml, hown, hts⟩ (c_R_lowestNumberIn l k) (cwS 1 hts (gi_S mw303 mw341 mw302 mw29) rfl rfl rfl (by decide +kernel) ⟨Nat.le_of_ble_eq_true rfl, Nat.le_of_ble_eq_true rfl⟩) st_S rfl rfl hl.1 rfl (lv_room (Nat.le_of_ble_eq_true rfl)) d_R_thirdNumberIn_1 ⟨Nat.le_of_ble_eq_true rfl, Nat.le_of_ble_eq_true rfl⟩) ?_
  exact W.iret (v := j_R_lowestNumberIn k) hx hb hr (fun t ht hW => ⟨congrArg (fun z => Outcome.returned (some (Value.int z))) (by unfold j_R_thirdNumberIn; rfl), ht⟩) (fun q h => by cases h) d_R_thirdNumberIn_4

def j_M_hitsHigh (n : Int32) : Int32 := if n < 0 then (-n) / 2 else (n + 1) / 2
set_option maxHeartbeats 4000000 in
set_option maxRecDepth 100000 in
theorem c_M_hitsHigh (l : Launch) (n : Int32) : Met l y_M_hitsHigh w_M_hitsHigh ({ frames := 0, cells := 0, slots := 0, locals := 0 }) (st_P [.int n]) (k2_QcV (.int (j_M_hitsHigh n))) 0 0 (fun _ => False) := by
  refine Met.ofW (cc := b_M_hitsHigh) (maxL := 1) (ret := (some .int)) (by decide) rfl ?_
  intro p e s m args below meth c s₁ B hml hv
  obtain ⟨rfl, -⟩ := hv
  have hx := B.exec
  have hb := B.bytes
  have hr := B.returns
  have hts := atoms_spec (ws := w_M_hitsHigh) B.pre
  have hown : s.vm.findClass "RoomEchoesModel" = some m.cls := findClass_of_methodNamed B.named
  have hlocks := B.notSynchronized
  have hl := lv_entry ([.int n]) (n := 1) (Nat.le_of_ble_eq_true rfl)
  rw [lg_entry_eq]
  generalize (lg_sl ([.int n]) ++ List.replicate (1 - (lg_sl ([.int n])).length) Slot.unset).toArray = ls at hl ⊢
  have hl : lv_has ls 1 [(0, .int n)] := hl
  refine lv_iload_n hx hb d_M_hitsHigh_0 rfl (lv_at hl 0 rfl) ?_
  refine lv_if_lt (tgt := 12) hx hb d_M_hitsHigh_1 (by decide) (fun c_1 => ?_) (fun c_1 => ?_)
  · skip
    refine lv_iload_n hx hb d_M_hitsHigh_12 rfl (lv_at hl 0 rfl) ?_
    refine lv_ineg hx hb d_M_hitsHigh_13 ?_
    refine lv_iconst (v := 2) hx hb d_M_hitsHigh_14 (by decide) ?_
    refine lv_idiv hx hb d_M_hitsHigh_15 (by decide) ?_
    exact W.iret (v := (-n) / 2) hx hb hr (fun t ht hW => ⟨congrArg (fun z => Outcome.returned (some (Value.int z))) (by unfold j_M_hitsHigh; rw [if_pos c_1]), ht⟩) (fun q h => by cases h) d_M_hitsHigh_16
  · skip
    refine lv_iload_n hx hb d_M_hitsHigh_4 rfl (lv_at hl 0 rfl) ?_
    refine lv_iconst (v := 1) hx hb d_M_hitsHigh_5 (by decide) ?_
    refine lv_iadd hx hb d_M_hitsHigh_6 ?_
    refine lv_iconst (v := 2) hx hb d_M_hitsHigh_7 (by decide) ?_
    refine lv_idiv hx hb d_M_hitsHigh_8 (by decide) ?_
    refine lv_goto (tgt := 16) hx hb d_M_hitsHigh_9 (by decide) ?_
    exact W.iret (v := (n + 1) / 2) hx hb hr (fun t ht hW => ⟨congrArg (fun z => Outcome.returned (some (Value.int z))) (by unfold j_M_hitsHigh; rw [if_neg c_1]), ht⟩) (fun q h => by cases h) d_M_hitsHigh_16

def j_M_hitsLow (n : Int32) : Int32 := if n < 0 then (1 - n) / 2 else n / 2
set_option maxHeartbeats 4000000 in
set_option maxRecDepth 100000 in
theorem c_M_hitsLow (l : Launch) (n : Int32) : Met l y_M_hitsLow w_M_hitsLow ({ frames := 0, cells := 0, slots := 0, locals := 0 }) (st_P [.int n]) (k2_QcV (.int (j_M_hitsLow n))) 0 0 (fun _ => False) := by
  refine Met.ofW (cc := b_M_hitsLow) (maxL := 1) (ret := (some .int)) (by decide) rfl ?_
  intro p e s m args below meth c s₁ B hml hv
  obtain ⟨rfl, -⟩ := hv
  have hx := B.exec
  have hb := B.bytes
  have hr := B.returns
  have hts := atoms_spec (ws := w_M_hitsLow) B.pre
  have hown : s.vm.findClass "RoomEchoesModel" = some m.cls := findClass_of_methodNamed B.named
  have hlocks := B.notSynchronized
  have hl := lv_entry ([.int n]) (n := 1) (Nat.le_of_ble_eq_true rfl)
  rw [lg_entry_eq]
  generalize (lg_sl ([.int n]) ++ List.replicate (1 - (lg_sl ([.int n])).length) Slot.unset).toArray = ls at hl ⊢
  have hl : lv_has ls 1 [(0, .int n)] := hl
  refine lv_iload_n hx hb d_M_hitsLow_0 rfl (lv_at hl 0 rfl) ?_
  refine lv_if_lt (tgt := 10) hx hb d_M_hitsLow_1 (by decide) (fun c_1 => ?_) (fun c_1 => ?_)
  · skip
    refine lv_iconst (v := 1) hx hb d_M_hitsLow_10 (by decide) ?_
    refine lv_iload_n hx hb d_M_hitsLow_11 rfl (lv_at hl 0 rfl) ?_
    refine lv_isub hx hb d_M_hitsLow_12 ?_
    refine lv_iconst (v := 2) hx hb d_M_hitsLow_13 (by decide) ?_
    refine lv_idiv hx hb d_M_hitsLow_14 (by decide) ?_
    exact W.iret (v := (1 - n) / 2) hx hb hr (fun t ht hW => ⟨congrArg (fun z => Outcome.returned (some (Value.int z))) (by unfold j_M_hitsLow; rw [if_pos c_1]), ht⟩) (fun q h => by cases h) d_M_hitsLow_15
  · skip
    refine lv_iload_n hx hb d_M_hitsLow_4 rfl (lv_at hl 0 rfl) ?_
    refine lv_iconst (v := 2) hx hb d_M_hitsLow_5 (by decide) ?_
    refine lv_idiv hx hb d_M_hitsLow_6 (by decide) ?_
    refine lv_goto (tgt := 15) hx hb d_M_hitsLow_7 (by decide) ?_
    exact W.iret (v := n / 2) hx hb hr (fun t ht hW => ⟨congrArg (fun z => Outcome.returned (some (Value.int z))) (by unfold j_M_hitsLow; rw [if_neg c_1]), ht⟩) (fun q h => by cases h) d_M_hitsLow_15

def j_M_hits (n : Int32) : Int32 := (j_M_hitsLow n) + (j_M_hitsHigh n)
set_option maxHeartbeats 4000000 in
set_option maxRecDepth 100000 in
theorem c_M_hits (l : Launch) (n : Int32) : Met l y_M_hits w_M_hits ({ frames := 1, cells := 0, slots := 0, locals := 20 }) (st_P [.int n]) (k2_QcV (.int (j_M_hits n))) 0 0 (fun _ => False) := by
  refine Met.ofW (cc := b_M_hits) (maxL := 1) (ret := (some .int)) (by decide) rfl ?_
  intro p e s m args below meth c s₁ B hml hv
  obtain ⟨rfl, -⟩ := hv
  have hx := B.exec
  have hb := B.bytes
  have hr := B.returns
  have hts := atoms_spec (ws := w_M_hits) B.pre
  have hown : s.vm.findClass "RoomEchoesModel" = some m.cls := findClass_of_methodNamed B.named
  have hlocks := B.notSynchronized
  have hl := lv_entry ([.int n]) (n := 1) (Nat.le_of_ble_eq_true rfl)
  rw [lg_entry_eq]
  generalize (lg_sl ([.int n]) ++ List.replicate (1 - (lg_sl ([.int n])).length) Slot.unset).toArray = ls at hl ⊢
  have hl : lv_has ls 1 [(0, .int n)] := hl
  refine lv_iload_n hx hb d_M_hits_0 rfl (lv_at hl 0 rfl) ?_
  refine rd_c (va_runS (As := [.int n]) (rest := []) ⟨hx, hb, hml, hown, hts⟩ (c_M_hitsLow l n) (cwS 1 hts (gi_S mw515 mw513 mw514 mw33) rfl rfl rfl (by decide +kernel) ⟨Nat.le_of_ble_eq_true rfl, Nat.le_of_ble_eq_true rfl⟩) st_S rfl rfl hl.1 rfl (lv_room (Nat.le_of_ble_eq_true rfl)) d_M_hits_1 ⟨Nat.le_of_ble_eq_true rfl, Nat.le_of_ble_eq_true rfl⟩) ?_
  refine lv_iload_n hx hb d_M_hits_4 rfl (lv_at hl 0 rfl) ?_
  refine rd_c (va_runS (As := [.int n]) (rest := [.int (j_M_hitsLow n)]) ⟨hx, hb, hml, hown, hts⟩ (c_M_hitsHigh l n) (cwS 1 hts (gi_S mw522 mw520 mw521 mw33) rfl rfl rfl (by decide +kernel) ⟨Nat.le_of_ble_eq_true rfl, Nat.le_of_ble_eq_true rfl⟩) st_S rfl rfl hl.1 rfl (lv_room (Nat.le_of_ble_eq_true rfl)) d_M_hits_5 ⟨Nat.le_of_ble_eq_true rfl, Nat.le_of_ble_eq_true rfl⟩) ?_
  refine lv_iadd hx hb d_M_hits_8 ?_
  exact W.iret (v := (j_M_hitsLow n) + (j_M_hitsHigh n)) hx hb hr (fun t ht hW => ⟨congrArg (fun z => Outcome.returned (some (Value.int z))) (by unfold j_M_hits; rfl), ht⟩) (fun q h => by cases h) d_M_hits_9

def j_R_sizeWithin (n : Int32) : Int32 := if 1 < (if n < 1000 then n else 1000) then (if n < 1000 then n else 1000) else 1
set_option maxHeartbeats 4000000 in
set_option maxRecDepth 100000 in
theorem c_R_sizeWithin (l : Launch) (n : Int32) : Met l y_R_sizeWithin w_R_sizeWithin ({ frames := 1, cells := 0, slots := 0, locals := 14 }) (st_P [.int n]) (k2_QcV (.int (j_R_sizeWithin n))) 0 0 (fun _ => False) := by
  refine Met.ofW (cc := b_R_sizeWithin) (maxL := 1) (ret := (some .int)) (by decide) rfl ?_
  intro p e s m args below meth c s₁ B hml hv
  obtain ⟨rfl, -⟩ := hv
  have hx := B.exec
  have hb := B.bytes
  have hr := B.returns
  have hts := atoms_spec (ws := w_R_sizeWithin) B.pre
  have hown : s.vm.findClass "RoomEchoes" = some m.cls := findClass_of_methodNamed B.named
  have hlocks := B.notSynchronized
  have hl := lv_entry ([.int n]) (n := 1) (Nat.le_of_ble_eq_true rfl)
  rw [lg_entry_eq]
  generalize (lg_sl ([.int n]) ++ List.replicate (1 - (lg_sl ([.int n])).length) Slot.unset).toArray = ls at hl ⊢
  have hl : lv_has ls 1 [(0, .int n)] := hl
  refine lv_iconst (v := 1) hx hb d_R_sizeWithin_0 (by decide) ?_
  refine lv_sipush (v := 1000) hx hb d_R_sizeWithin_1 (by decide) ?_
  refine lv_iload_n hx hb d_R_sizeWithin_4 rfl (lv_at hl 0 rfl) ?_
  refine va_mmin hx hb (hml.trans hl.1.symm) hown (ht_ hts mw66) (ht_ hts mw67) (ht_ hts mw32) (ht_ hts mw68) (Nat.le_of_ble_eq_true rfl) (Nat.le_of_ble_eq_true rfl) (Nat.le_of_ble_eq_true rfl) (Nat.le_of_ble_eq_true rfl) d_R_sizeWithin_5 ?_
  refine va_mmax hx hb (hml.trans hl.1.symm) hown (ht_ hts mw69) (ht_ hts mw70) (ht_ hts mw32) (ht_ hts mw71) (Nat.le_of_ble_eq_true rfl) (Nat.le_of_ble_eq_true rfl) (Nat.le_of_ble_eq_true rfl) (Nat.le_of_ble_eq_true rfl) d_R_sizeWithin_8 ?_
  exact W.iret (v := if 1 < (if n < 1000 then n else 1000) then (if n < 1000 then n else 1000) else 1) hx hb hr (fun t ht hW => ⟨congrArg (fun z => Outcome.returned (some (Value.int z))) (by unfold j_R_sizeWithin; rfl), ht⟩) (fun q h => by cases h) d_R_sizeWithin_11

def j_it (th : Int32) : Nat → Int64 → Int64
  | 0, x => x
  | n + 1, x => j_it th n (x * th.toInt64 / 1000)

set_option maxHeartbeats 4000000 in
set_option maxRecDepth 100000 in
theorem c_R_strengthAfterHits (l : Launch) (g : Int64) (h : Int32) (th : Int32) : Met l y_R_strengthAfterHits w_R_strengthAfterHits ({ frames := 0, cells := 0, slots := 0, locals := 0 }) (st_P [.long g, .int h, .int th]) (k2_QcV (.long (j_it th h.toNatClampNeg g))) 0 0 (fun _ => False) := by
  refine Met.ofW (cc := b_R_strengthAfterHits) (maxL := 7) (ret := (some .long)) (by decide) rfl ?_
  intro p e s m args below meth c s₁ B hml hv
  obtain ⟨rfl, -⟩ := hv
  have hx := B.exec
  have hb := B.bytes
  have hr := B.returns
  have hts := atoms_spec (ws := w_R_strengthAfterHits) B.pre
  have hown : s.vm.findClass "RoomEchoes" = some m.cls := findClass_of_methodNamed B.named
  have hlocks := B.notSynchronized
  have hl := lv_entry ([.long g, .int h, .int th]) (n := 7) (Nat.le_of_ble_eq_true rfl)
  rw [lg_entry_eq]
  generalize (lg_sl ([.long g, .int h, .int th]) ++ List.replicate (7 - (lg_sl ([.long g, .int h, .int th])).length) Slot.unset).toArray = ls at hl ⊢
  have hl : lv_has ls 7 [(0, .long g), (2, .int h), (3, .int th)] := hl
  refine lv_lload_n hx hb d_R_strengthAfterHits_0 rfl (lv_at hl 0 rfl) ?_
  refine lv_lstore (lv' := [(4, .long g), (0, .long g), (2, .int h), (3, .int th)]) hx hb d_R_strengthAfterHits_1 hl (by decide) rfl (fun ls hl => ?_)
  refine lv_iconst (v := 0) hx hb d_R_strengthAfterHits_3 (by decide) ?_
  refine lv_istore (lv' := [(6, .int 0), (4, .long g), (0, .long g), (2, .int h), (3, .int th)]) hx hb d_R_strengthAfterHits_4 hl (by decide) rfl (fun ls hl => ?_)
  have hB := nu_lt31 h
  have lp : ∀ (n9 : Nat) (i : Nat) (y : Int64), h.toNatClampNeg < i + n9 → i ≤ h.toNatClampNeg → j_it th (h.toNatClampNeg - i) y = j_it th h.toNatClampNeg g → ∀ (ls : Array Slot), lv_has ls 7 [(6, .int (nI i)), (4, .long y), (0, .long g), (2, .int h), (3, .int th)] → W p l e (headSpec w_R_strengthAfterHits ({ frames := 0, cells := 0, slots := 0, locals := 0 })).room s m ([.long g, .int h, .int th] : List Value).toArray below meth c s.heap [] 0 0 (MQ below (k2_QcV (.long (j_it th h.toNatClampNeg g))) ([.long g, .int h, .int th] : List Value).toArray s 0 0 (fun _ => False)) (F0 m 6 ls []) := by
    intro n9
    induction n9 with
    | zero => intro i y hn hi hj ls hl; omega
    | succ n9 ih =>
      intro i y hn hi hj ls hl
      refine lv_iload hx hb d_R_strengthAfterHits_6 (lv_at hl 0 rfl) ?_
      refine lv_iload_n hx hb d_R_strengthAfterHits_8 rfl (lv_at hl 3 rfl) ?_
      refine lv_icmp_ge (tgt := 29) hx hb d_R_strengthAfterHits_9 (by decide) (fun c_9 => ?_) (fun c_9 => ?_)
      · skip
        refine lv_lload hx hb d_R_strengthAfterHits_29 (lv_at hl 1 rfl) ?_
        exact W.lret (v := y) hx hb hr (fun t ht hW => ⟨congrArg (fun z => Outcome.returned (some (Value.long z))) (by rw [← hj, show h.toNatClampNeg - i = 0 by have := nu_end (by omega) c_9; omega]; rfl), ht⟩) (fun q h => by cases h) d_R_strengthAfterHits_31
      · skip
        refine lv_lload hx hb d_R_strengthAfterHits_12 (lv_at hl 1 rfl) ?_
        refine lv_iload_n hx hb d_R_strengthAfterHits_14 rfl (lv_at hl 4 rfl) ?_
        refine lv_i2l hx hb d_R_strengthAfterHits_15 rfl ?_
        refine lv_lmul hx hb d_R_strengthAfterHits_16 ?_
        refine lv_ldc2 (v := 1000) hx hb hown (ht_ hts mw261) d_R_strengthAfterHits_17 ?_
        refine lv_ldiv hx hb d_R_strengthAfterHits_20 (by decide) ?_
        refine lv_lstore (lv' := [(4, .long ((y * th.toInt64) / 1000)), (6, .int (nI i)), (0, .long g), (2, .int h), (3, .int th)]) hx hb d_R_strengthAfterHits_21 hl (by decide) rfl (fun ls hl => ?_)
        refine lv_iinc (v := nI (i + 1)) (lv' := [(6, .int (nI (i + 1))), (4, .long ((y * th.toInt64) / 1000)), (0, .long g), (2, .int h), (3, .int th)]) hx hb d_R_strengthAfterHits_23 hl (k := 1) rfl (nI_succ _).symm (by decide) rfl (fun ls hl => ?_)
        refine lv_goto (tgt := 6) hx hb d_R_strengthAfterHits_26 (by decide) ?_
        exact ih (i + 1) _ (by omega) (nu_on (by omega) c_9) (by rw [← hj, show h.toNatClampNeg - i = h.toNatClampNeg - (i + 1) + 1 by have := nu_on (by omega) c_9; omega]; rfl) ls (lv_sub hl [0, 1, 2, 3, 4] rfl)
  exact lp (h.toNatClampNeg + 1) 0 g (by omega) (Nat.zero_le _) rfl ls (lv_sub hl [0, 1, 2, 3, 4] rfl)

def j_R_strengthAfterAxis (g : Int64) (n : Int32) (k0 : Int32) (k1 : Int32) : Int64 := j_it k1 (j_R_hitsAtSize n).toNatClampNeg (j_it k0 (j_R_hitsAtZero n).toNatClampNeg g)
set_option maxHeartbeats 4000000 in
set_option maxRecDepth 100000 in
theorem c_R_strengthAfterAxis (l : Launch) (g : Int64) (n : Int32) (k0 : Int32) (k1 : Int32) : Met l y_R_strengthAfterAxis w_R_strengthAfterAxis ({ frames := 1, cells := 0, slots := 0, locals := 26 }) (st_P [.long g, .int n, .int k0, .int k1]) (k2_QcV (.long (j_R_strengthAfterAxis g n k0 k1))) 0 0 (fun _ => False) := by
  refine Met.ofW (cc := b_R_strengthAfterAxis) (maxL := 7) (ret := (some .long)) (by decide) rfl ?_
  intro p e s m args below meth c s₁ B hml hv
  obtain ⟨rfl, -⟩ := hv
  have hx := B.exec
  have hb := B.bytes
  have hr := B.returns
  have hts := atoms_spec (ws := w_R_strengthAfterAxis) B.pre
  have hown : s.vm.findClass "RoomEchoes" = some m.cls := findClass_of_methodNamed B.named
  have hlocks := B.notSynchronized
  have hl := lv_entry ([.long g, .int n, .int k0, .int k1]) (n := 7) (Nat.le_of_ble_eq_true rfl)
  rw [lg_entry_eq]
  generalize (lg_sl ([.long g, .int n, .int k0, .int k1]) ++ List.replicate (7 - (lg_sl ([.long g, .int n, .int k0, .int k1])).length) Slot.unset).toArray = ls at hl ⊢
  have hl : lv_has ls 7 [(0, .long g), (2, .int n), (3, .int k0), (4, .int k1)] := hl
  refine lv_lload_n hx hb d_R_strengthAfterAxis_0 rfl (lv_at hl 0 rfl) ?_
  refine lv_iload_n hx hb d_R_strengthAfterAxis_1 rfl (lv_at hl 1 rfl) ?_
  refine rd_c (va_runS (As := [.int n]) (rest := [.long g]) ⟨hx, hb, hml, hown, hts⟩ (c_R_hitsAtZero l n) (cwS 1 hts (gi_S mw257 mw255 mw256 mw29) rfl rfl rfl (by decide +kernel) ⟨Nat.le_of_ble_eq_true rfl, Nat.le_of_ble_eq_true rfl⟩) st_S rfl rfl hl.1 rfl (lv_room (Nat.le_of_ble_eq_true rfl)) d_R_strengthAfterAxis_2 ⟨Nat.le_of_ble_eq_true rfl, Nat.le_of_ble_eq_true rfl⟩) ?_
  refine lv_iload_n hx hb d_R_strengthAfterAxis_5 rfl (lv_at hl 2 rfl) ?_
  refine rd_c (va_runS (As := [.long g, .int (j_R_hitsAtZero n), .int k0]) (rest := []) ⟨hx, hb, hml, hown, hts⟩ (c_R_strengthAfterHits l g (j_R_hitsAtZero n) k0) (cwS 3 hts (gi_S mw260 mw258 mw259 mw29) rfl rfl rfl (by decide +kernel) ⟨Nat.le_of_ble_eq_true rfl, Nat.le_of_ble_eq_true rfl⟩) st_S rfl rfl hl.1 rfl (lv_room (Nat.le_of_ble_eq_true rfl)) d_R_strengthAfterAxis_6 ⟨Nat.le_of_ble_eq_true rfl, Nat.le_of_ble_eq_true rfl⟩) ?_
  refine lv_lstore (lv' := [(5, .long (j_it k0 (j_R_hitsAtZero n).toNatClampNeg g)), (0, .long g), (2, .int n), (3, .int k0), (4, .int k1)]) hx hb d_R_strengthAfterAxis_9 hl (by decide) rfl (fun ls hl => ?_)
  refine lv_lload hx hb d_R_strengthAfterAxis_11 (lv_at hl 0 rfl) ?_
  refine lv_iload_n hx hb d_R_strengthAfterAxis_13 rfl (lv_at hl 2 rfl) ?_
  refine rd_c (va_runS (As := [.int n]) (rest := [.long (j_it k0 (j_R_hitsAtZero n).toNatClampNeg g)]) ⟨hx, hb, hml, hown, hts⟩ (c_R_hitsAtSize l n) (cwS 1 hts (gi_S mw264 mw262 mw263 mw29) rfl rfl rfl (by decide +kernel) ⟨Nat.le_of_ble_eq_true rfl, Nat.le_of_ble_eq_true rfl⟩) st_S rfl rfl hl.1 rfl (lv_room (Nat.le_of_ble_eq_true rfl)) d_R_strengthAfterAxis_14 ⟨Nat.le_of_ble_eq_true rfl, Nat.le_of_ble_eq_true rfl⟩) ?_
  refine lv_iload hx hb d_R_strengthAfterAxis_17 (lv_at hl 4 rfl) ?_
  refine rd_c (va_runS (As := [.long (j_it k0 (j_R_hitsAtZero n).toNatClampNeg g), .int (j_R_hitsAtSize n), .int k1]) (rest := []) ⟨hx, hb, hml, hown, hts⟩ (c_R_strengthAfterHits l (j_it k0 (j_R_hitsAtZero n).toNatClampNeg g) (j_R_hitsAtSize n) k1) (cwS 3 hts (gi_S mw260 mw258 mw259 mw29) rfl rfl rfl (by decide +kernel) ⟨Nat.le_of_ble_eq_true rfl, Nat.le_of_ble_eq_true rfl⟩) st_S rfl rfl hl.1 rfl (lv_room (Nat.le_of_ble_eq_true rfl)) d_R_strengthAfterAxis_19 ⟨Nat.le_of_ble_eq_true rfl, Nat.le_of_ble_eq_true rfl⟩) ?_
  exact W.lret (v := j_it k1 (j_R_hitsAtSize n).toNatClampNeg (j_it k0 (j_R_hitsAtZero n).toNatClampNeg g)) hx hb hr (fun t ht hW => ⟨congrArg (fun z => Outcome.returned (some (Value.long z))) (by unfold j_R_strengthAfterAxis; rfl), ht⟩) (fun q h => by cases h) d_R_strengthAfterAxis_22

def j_gcd : Nat → Int64 → Int64 → Int64
  | 0, x, _ => x
  | n + 1, x, y => if y = 0 then x else j_gcd n y (x - x / y * y)

set_option maxHeartbeats 4000000 in
set_option maxRecDepth 100000 in
theorem c_R_gcd (l : Launch) (x0 : Int64) (y0 : Int64) : Met l y_R_greatestCommonDivisor w_R_greatestCommonDivisor ({ frames := 0, cells := 0, slots := 0, locals := 0 }) (st_P [.long x0, .long y0]) (k2_QcV (.long (j_gcd 1000 x0 y0))) 0 0 (fun _ => False) := by
  refine Met.ofW (cc := b_R_greatestCommonDivisor) (maxL := 11) (ret := (some .long)) (by decide) rfl ?_
  intro p e s m args below meth c s₁ B hml hv
  obtain ⟨rfl, -⟩ := hv
  have hx := B.exec
  have hb := B.bytes
  have hr := B.returns
  have hts := atoms_spec (ws := w_R_greatestCommonDivisor) B.pre
  have hown : s.vm.findClass "RoomEchoes" = some m.cls := findClass_of_methodNamed B.named
  have hlocks := B.notSynchronized
  have hl := lv_entry ([.long x0, .long y0]) (n := 11) (Nat.le_of_ble_eq_true rfl)
  rw [lg_entry_eq]
  generalize (lg_sl ([.long x0, .long y0]) ++ List.replicate (11 - (lg_sl ([.long x0, .long y0])).length) Slot.unset).toArray = ls at hl ⊢
  have hl : lv_has ls 11 [(0, .long x0), (2, .long y0)] := hl
  refine lv_lload_n hx hb d_R_greatestCommonDivisor_0 rfl (lv_at hl 0 rfl) ?_
  refine lv_lstore (lv' := [(4, .long x0), (0, .long x0), (2, .long y0)]) hx hb d_R_greatestCommonDivisor_1 hl (by decide) rfl (fun ls hl => ?_)
  refine lv_lload_n hx hb d_R_greatestCommonDivisor_3 rfl (lv_at hl 2 rfl) ?_
  refine lv_lstore (lv' := [(6, .long y0), (4, .long x0), (0, .long x0), (2, .long y0)]) hx hb d_R_greatestCommonDivisor_4 hl (by decide) rfl (fun ls hl => ?_)
  refine lv_iconst (v := 0) hx hb d_R_greatestCommonDivisor_6 (by decide) ?_
  refine lv_istore (lv' := [(8, .int 0), (6, .long y0), (4, .long x0), (0, .long x0), (2, .long y0)]) hx hb d_R_greatestCommonDivisor_7 hl (by decide) rfl (fun ls hl => ?_)
  have lp : ∀ (n9 : Nat) (i : Nat) (x : Int64) (y : Int64), 1000 < i + n9 → i ≤ 1000 → j_gcd (1000 - i) x y = j_gcd 1000 x0 y0 → ∀ (ls : Array Slot), lv_has ls 11 [(8, .int (nI i)), (4, .long x), (6, .long y), (0, .long x0), (2, .long y0)] → W p l e (headSpec w_R_greatestCommonDivisor ({ frames := 0, cells := 0, slots := 0, locals := 0 })).room s m ([.long x0, .long y0] : List Value).toArray below meth c s.heap [] 0 0 (MQ below (k2_QcV (.long (j_gcd 1000 x0 y0))) ([.long x0, .long y0] : List Value).toArray s 0 0 (fun _ => False)) (F0 m 9 ls []) := by
    intro n9
    induction n9 with
    | zero => intro i x y hn hi hj ls hl; omega
    | succ n9 ih =>
      intro i x y hn hi hj ls hl
      refine lv_iload hx hb d_R_greatestCommonDivisor_9 (lv_at hl 0 rfl) ?_
      refine lv_sipush (v := 1000) hx hb d_R_greatestCommonDivisor_11 (by decide) ?_
      refine lv_icmp_ge (tgt := 45) hx hb d_R_greatestCommonDivisor_14 (by decide) (fun c_14 => ?_) (fun c_14 => ?_)
      · skip
        refine lv_lload hx hb d_R_greatestCommonDivisor_45 (lv_at hl 1 rfl) ?_
        exact W.lret (v := x) hx hb hr (fun t ht hW => ⟨congrArg (fun z => Outcome.returned (some (Value.long z))) (by rw [← hj, show 1000 - i = 0 by have : 1000 ≤ i := nu_end (x := 1000) (by omega) c_14; omega]; rfl), ht⟩) (fun q h => by cases h) d_R_greatestCommonDivisor_47
      · skip
        refine lv_lload hx hb d_R_greatestCommonDivisor_17 (lv_at hl 2 rfl) ?_
        refine lv_lconst (v := 0) hx hb d_R_greatestCommonDivisor_19 (by decide) ?_
        refine W.lcmp hx hb d_R_greatestCommonDivisor_20 ?_
        refine lv_if_eq (tgt := 45) hx hb d_R_greatestCommonDivisor_21 (by decide) (fun c_21 => ?_) (fun c_21 => ?_)
        · rw [lg_cmp_eq] at c_21
          refine lv_lload hx hb d_R_greatestCommonDivisor_45 (lv_at hl 1 rfl) ?_
          exact W.lret (v := x) hx hb hr (fun t ht hW => ⟨congrArg (fun z => Outcome.returned (some (Value.long z))) (by rw [← hj, show 1000 - i = 1000 - (i + 1) + 1 by have : i < 1000 := nu_on (x := 1000) (by omega) c_14; omega]; exact (if_pos c_21).symm), ht⟩) (fun q h => by cases h) d_R_greatestCommonDivisor_47
        · rw [lg_cmp_eq] at c_21
          refine lv_lload hx hb d_R_greatestCommonDivisor_24 (lv_at hl 1 rfl) ?_
          refine lv_lload hx hb d_R_greatestCommonDivisor_26 (lv_at hl 2 rfl) ?_
          refine lv_lrem hx hb d_R_greatestCommonDivisor_28 c_21 ?_
          refine lv_lstore (lv' := [(9, .long (x - x / y * y)), (8, .int (nI i)), (4, .long x), (6, .long y), (0, .long x0), (2, .long y0)]) hx hb d_R_greatestCommonDivisor_29 hl (by decide) rfl (fun ls hl => ?_)
          refine lv_lload hx hb d_R_greatestCommonDivisor_31 (lv_at hl 3 rfl) ?_
          refine lv_lstore (lv' := [(4, .long y), (9, .long (x - x / y * y)), (8, .int (nI i)), (6, .long y), (0, .long x0), (2, .long y0)]) hx hb d_R_greatestCommonDivisor_33 hl (by decide) rfl (fun ls hl => ?_)
          refine lv_lload hx hb d_R_greatestCommonDivisor_35 (lv_at hl 1 rfl) ?_
          refine lv_lstore (lv' := [(6, .long (x - x / y * y)), (4, .long y), (9, .long (x - x / y * y)), (8, .int (nI i)), (0, .long x0), (2, .long y0)]) hx hb d_R_greatestCommonDivisor_37 hl (by decide) rfl (fun ls hl => ?_)
          refine lv_iinc (v := nI (i + 1)) (lv' := [(8, .int (nI (i + 1))), (6, .long (x - x / y * y)), (4, .long y), (9, .long (x - x / y * y)), (0, .long x0), (2, .long y0)]) hx hb d_R_greatestCommonDivisor_39 hl (k := 3) rfl (nI_succ _).symm (by decide) rfl (fun ls hl => ?_)
          refine lv_goto (tgt := 9) hx hb d_R_greatestCommonDivisor_42 (by decide) ?_
          exact ih (i + 1) _ _ (by omega) (nu_on (x := 1000) (by omega) c_14) (by rw [← hj, show 1000 - i = 1000 - (i + 1) + 1 by have : i < 1000 := nu_on (x := 1000) (by omega) c_14; omega]; exact (if_neg c_21).symm) ls (lv_sub hl [0, 2, 1, 4, 5] rfl)
  exact lp 1001 0 x0 y0 (by omega) (by omega) rfl ls (lv_sub hl [0, 2, 1, 3, 4] rfl)
