def j_A_imageAt (w : Int32) (sc : Int32) (n : Int32) : Int32 := if (n &&& 1) = 0 then (n * w) + sc else (n * w) + (w - sc)
set_option maxHeartbeats 4000000 in
set_option maxRecDepth 100000 in
theorem c_A_imageAt (l : Launch) (dC : Nat → ClassId) (dI : Nat → Nat → Nat) (cI cL : ClassId) (aA : Nat) (w : Int32) (sc : Int32) (li : Int32) (ar : Nat) (ak : Nat) (n : Int32) : Met l y_A_imageAt w_A_imageAt ({ frames := 0, cells := 0, slots := 0, locals := 0 }) (rd_P (dC, dI) cI cL [(aA, .inr (0, [.int w, .int sc, .int li, .ref ar, .ref ak]))] [.ref aA, .int n]) (k2_QcV (.int (j_A_imageAt w sc n))) 0 0 (fun _ => False) := by
  refine Met.ofW (cc := b_A_imageAt) (maxL := 3) (ret := (some .int)) (by decide) rfl ?_
  intro p e s m args below meth c s₁ B hml hv
  obtain ⟨rfl, hP, hM⟩ := hv
  have hx := B.exec
  have hb := B.bytes
  have hr := B.returns
  have hts := atoms_spec (ws := w_A_imageAt) B.pre
  have hown : s.vm.findClass "RoomEchoes$Axis" = some m.cls := findClass_of_methodNamed B.named
  have hlocks := B.notSynchronized
  have hK := hM.1
  have hl := lv_entry ([.ref aA, .int n]) (n := 3) (Nat.le_of_ble_eq_true rfl)
  rw [lg_entry_eq]
  generalize (lg_sl ([.ref aA, .int n]) ++ List.replicate (3 - (lg_sl ([.ref aA, .int n])).length) Slot.unset).toArray = ls at hl ⊢
  have hl : lv_has ls 3 [(0, .ref aA), (1, .int n)] := hl
  refine lv_iload_n hx hb d_A_imageAt_0 rfl (lv_at hl 1 rfl) ?_
  refine lv_iconst (v := 1) hx hb d_A_imageAt_1 (by decide) ?_
  refine lv_iand hx hb d_A_imageAt_2 ?_
  refine lv_if_ne (tgt := 10) hx hb d_A_imageAt_3 (by decide) (fun c_3 => ?_) (fun c_3 => ?_)
  · skip
    refine lv_iconst (v := 0) hx hb d_A_imageAt_10 (by decide) ?_
    refine lv_istore_n (lv' := [(2, .int 0), (0, .ref aA), (1, .int n)]) hx hb d_A_imageAt_11 rfl hl (by decide) rfl (fun ls hl => ?_)
    refine lv_iload_n hx hb d_A_imageAt_12 rfl (lv_at hl 2 rfl) ?_
    refine lv_aload_n hx hb d_A_imageAt_13 rfl (lv_at hl 1 rfl) ?_
    refine va_get (D := (dC, dI)) (ci := 0) (v := .int w) (C := "RoomEchoes$Axis") (T := FT_A) (N := 5) hx hb hts (hi_ in_A) hown hK hP 0 rfl rfl 0 (by decide) (ht_ hts mw76) (fun _ h9 => h9) rfl d_A_imageAt_14 ?_
    refine lv_imul hx hb d_A_imageAt_17 ?_
    refine lv_iload_n hx hb d_A_imageAt_18 rfl (lv_at hl 0 rfl) ?_
    refine lv_if_eq (tgt := 29) hx hb d_A_imageAt_19 (by decide) (fun c_19 => ?_) (fun c_19 => ?_)
    · skip
      refine lv_aload_n hx hb d_A_imageAt_29 rfl (lv_at hl 1 rfl) ?_
      refine va_get (D := (dC, dI)) (ci := 0) (v := .int w) (C := "RoomEchoes$Axis") (T := FT_A) (N := 5) hx hb hts (hi_ in_A) hown hK hP 0 rfl rfl 0 (by decide) (ht_ hts mw76) (fun _ h9 => h9) rfl d_A_imageAt_30 ?_
      refine lv_aload_n hx hb d_A_imageAt_33 rfl (lv_at hl 1 rfl) ?_
      refine va_get (D := (dC, dI)) (ci := 0) (v := .int sc) (C := "RoomEchoes$Axis") (T := FT_A) (N := 5) hx hb hts (hi_ in_A) hown hK hP 0 rfl rfl 1 (by decide) (ht_ hts mw79) (fun _ h9 => h9) rfl d_A_imageAt_34 ?_
      refine lv_isub hx hb d_A_imageAt_37 ?_
      refine lv_iadd hx hb d_A_imageAt_38 ?_
      exact W.iret (v := (n * w) + (w - sc)) hx hb hr (fun t ht hW => ⟨congrArg (fun z => Outcome.returned (some (Value.int z))) (by unfold j_A_imageAt; rw [if_neg c_3]), ht⟩) (fun q h => by cases h) d_A_imageAt_39
    · skip
      exact absurd (by decide) c_19
  · skip
    refine lv_iconst (v := 1) hx hb d_A_imageAt_6 (by decide) ?_
    refine lv_goto (tgt := 11) hx hb d_A_imageAt_7 (by decide) ?_
    refine lv_istore_n (lv' := [(2, .int 1), (0, .ref aA), (1, .int n)]) hx hb d_A_imageAt_11 rfl hl (by decide) rfl (fun ls hl => ?_)
    refine lv_iload_n hx hb d_A_imageAt_12 rfl (lv_at hl 2 rfl) ?_
    refine lv_aload_n hx hb d_A_imageAt_13 rfl (lv_at hl 1 rfl) ?_
    refine va_get (D := (dC, dI)) (ci := 0) (v := .int w) (C := "RoomEchoes$Axis") (T := FT_A) (N := 5) hx hb hts (hi_ in_A) hown hK hP 0 rfl rfl 0 (by decide) (ht_ hts mw76) (fun _ h9 => h9) rfl d_A_imageAt_14 ?_
    refine lv_imul hx hb d_A_imageAt_17 ?_
    refine lv_iload_n hx hb d_A_imageAt_18 rfl (lv_at hl 0 rfl) ?_
    refine lv_if_eq (tgt := 29) hx hb d_A_imageAt_19 (by decide) (fun c_19 => ?_) (fun c_19 => ?_)
    · skip
      exact absurd c_19 (by decide)
    · skip
      refine lv_aload_n hx hb d_A_imageAt_22 rfl (lv_at hl 1 rfl) ?_
      refine va_get (D := (dC, dI)) (ci := 0) (v := .int sc) (C := "RoomEchoes$Axis") (T := FT_A) (N := 5) hx hb hts (hi_ in_A) hown hK hP 0 rfl rfl 1 (by decide) (ht_ hts mw79) (fun _ h9 => h9) rfl d_A_imageAt_23 ?_
      refine lv_goto (tgt := 38) hx hb d_A_imageAt_26 (by decide) ?_
      refine lv_iadd hx hb d_A_imageAt_38 ?_
      exact W.iret (v := (n * w) + sc) hx hb hr (fun t ht hW => ⟨congrArg (fun z => Outcome.returned (some (Value.int z))) (by unfold j_A_imageAt; rw [if_pos c_3]), ht⟩) (fun q h => by cases h) d_A_imageAt_39

def j_A_squareTo (w : Int32) (sc : Int32) (li : Int32) (n : Int32) : Int64 := (((j_A_imageAt w sc n) - li).toInt64) * (((j_A_imageAt w sc n) - li).toInt64)
set_option maxHeartbeats 4000000 in
set_option maxRecDepth 100000 in
theorem c_A_squareTo (l : Launch) (dC : Nat → ClassId) (dI : Nat → Nat → Nat) (cI cL : ClassId) (aA : Nat) (w : Int32) (sc : Int32) (li : Int32) (ar : Nat) (ak : Nat) (n : Int32) : Met l y_A_squareTo w_A_squareTo ({ frames := 1, cells := 0, slots := 0, locals := 22 }) (rd_P (dC, dI) cI cL [(aA, .inr (0, [.int w, .int sc, .int li, .ref ar, .ref ak]))] [.ref aA, .int n]) (k2_QcV (.long (j_A_squareTo w sc li n))) 0 0 (fun _ => False) := by
  refine Met.ofW (cc := b_A_squareTo) (maxL := 4) (ret := (some .long)) (by decide) rfl ?_
  intro p e s m args below meth c s₁ B hml hv
  obtain ⟨rfl, hP, hM⟩ := hv
  have hx := B.exec
  have hb := B.bytes
  have hr := B.returns
  have hts := atoms_spec (ws := w_A_squareTo) B.pre
  have hown : s.vm.findClass "RoomEchoes$Axis" = some m.cls := findClass_of_methodNamed B.named
  have hlocks := B.notSynchronized
  have hK := hM.1
  have hl := lv_entry ([.ref aA, .int n]) (n := 4) (Nat.le_of_ble_eq_true rfl)
  rw [lg_entry_eq]
  generalize (lg_sl ([.ref aA, .int n]) ++ List.replicate (4 - (lg_sl ([.ref aA, .int n])).length) Slot.unset).toArray = ls at hl ⊢
  have hl : lv_has ls 4 [(0, .ref aA), (1, .int n)] := hl
  refine lv_aload_n hx hb d_A_squareTo_0 rfl (lv_at hl 0 rfl) ?_
  refine lv_iload_n hx hb d_A_squareTo_1 rfl (lv_at hl 1 rfl) ?_
  have hPc := hP.sub (ws' := [(aA, .inr (0, [.int w, .int sc, .int li, .ref ar, .ref ak]))]) [0] rfl
  refine rd_c (va_runV (As := [.int n]) (rest := []) ⟨hx, hb, hml, hown, hts⟩ (c_A_imageAt l dC dI cI cL aA w sc li ar ak n) (cwV 1 hts (gi_V mw246 mw243 mw245 mw4 mw31) rfl rfl rfl (by decide +kernel) ⟨Nat.le_of_ble_eq_true rfl, Nat.le_of_ble_eq_true rfl⟩) (rd_V hM hPc rfl rfl rfl) rfl rfl hl.1 rfl (lv_room (Nat.le_of_ble_eq_true rfl)) d_A_squareTo_2 ⟨Nat.le_of_ble_eq_true rfl, Nat.le_of_ble_eq_true rfl⟩) ?_
  refine lv_aload_n hx hb d_A_squareTo_5 rfl (lv_at hl 0 rfl) ?_
  refine va_get (D := (dC, dI)) (ci := 0) (v := .int li) (C := "RoomEchoes$Axis") (T := FT_A) (N := 5) hx hb hts (hi_ in_A) hown hK hP 0 rfl rfl 2 (by decide) (ht_ hts mw80) (fun _ h9 => h9) rfl d_A_squareTo_6 ?_
  refine lv_isub hx hb d_A_squareTo_9 ?_
  refine lv_i2l hx hb d_A_squareTo_10 rfl ?_
  refine lv_lstore_n (lv' := [(2, .long (((j_A_imageAt w sc n) - li).toInt64)), (0, .ref aA), (1, .int n)]) hx hb d_A_squareTo_11 rfl hl (by decide) rfl (fun ls hl => ?_)
  refine lv_lload_n hx hb d_A_squareTo_12 rfl (lv_at hl 0 rfl) ?_
  refine lv_lload_n hx hb d_A_squareTo_13 rfl (lv_at hl 0 rfl) ?_
  refine lv_lmul hx hb d_A_squareTo_14 ?_
  exact W.lret (v := (((j_A_imageAt w sc n) - li).toInt64) * (((j_A_imageAt w sc n) - li).toInt64)) hx hb hr (fun t ht hW => ⟨congrArg (fun z => Outcome.returned (some (Value.long z))) (by unfold j_A_squareTo; rfl), ht⟩) (fun q h => by cases h) d_A_squareTo_15

def j_A_squareAt (r : Nat → Int64) (n : Int32) : Int64 := if n < 0 then 0 else (if 81 ≤ n then 0 else (r n.toNatClampNeg) >>> ((7 : Int32).toInt64 &&& 63))
set_option maxHeartbeats 4000000 in
set_option maxRecDepth 100000 in
theorem c_A_squareAt (l : Launch) (dC : Nat → ClassId) (dI : Nat → Nat → Nat) (cI cL : ClassId) (aA : Nat) (w : Int32) (sc : Int32) (li : Int32) (ar : Nat) (ak : Nat) (r : Nat → Int64) (n : Int32) : Met l y_A_squareAt w_A_squareAt ({ frames := 0, cells := 0, slots := 0, locals := 0 }) (rd_P (dC, dI) cI cL [(aA, .inr (0, [.int w, .int sc, .int li, .ref ar, .ref ak])), (ar, .inl (cL, 81, .inr (.inl r)))] [.ref aA, .int n]) (k2_QcV (.long (j_A_squareAt r n))) 0 0 (fun _ => False) := by
  refine Met.ofW (cc := b_A_squareAt) (maxL := 2) (ret := (some .long)) (by decide) rfl ?_
  intro p e s m args below meth c s₁ B hml hv
  obtain ⟨rfl, hP, hM⟩ := hv
  have hx := B.exec
  have hb := B.bytes
  have hr := B.returns
  have hts := atoms_spec (ws := w_A_squareAt) B.pre
  have hown : s.vm.findClass "RoomEchoes$Axis" = some m.cls := findClass_of_methodNamed B.named
  have hlocks := B.notSynchronized
  have hK := hM.1
  have hl := lv_entry ([.ref aA, .int n]) (n := 2) (Nat.le_of_ble_eq_true rfl)
  rw [lg_entry_eq]
  generalize (lg_sl ([.ref aA, .int n]) ++ List.replicate (2 - (lg_sl ([.ref aA, .int n])).length) Slot.unset).toArray = ls at hl ⊢
  have hl : lv_has ls 2 [(0, .ref aA), (1, .int n)] := hl
  refine lv_iload_n hx hb d_A_squareAt_0 rfl (lv_at hl 1 rfl) ?_
  refine lv_if_lt (tgt := 22) hx hb d_A_squareAt_1 (by decide) (fun c_1 => ?_) (fun c_1 => ?_)
  · skip
    refine lv_lconst (v := 0) hx hb d_A_squareAt_22 (by decide) ?_
    exact W.lret (v := 0) hx hb hr (fun t ht hW => ⟨congrArg (fun z => Outcome.returned (some (Value.long z))) (by unfold j_A_squareAt; rw [if_pos c_1]), ht⟩) (fun q h => by cases h) d_A_squareAt_23
  · skip
    refine lv_iload_n hx hb d_A_squareAt_4 rfl (lv_at hl 1 rfl) ?_
    refine lv_bipush (v := 81) hx hb d_A_squareAt_5 (by decide) ?_
    refine lv_icmp_ge (tgt := 22) hx hb d_A_squareAt_7 (by decide) (fun c_7 => ?_) (fun c_7 => ?_)
    · skip
      refine lv_lconst (v := 0) hx hb d_A_squareAt_22 (by decide) ?_
      exact W.lret (v := 0) hx hb hr (fun t ht hW => ⟨congrArg (fun z => Outcome.returned (some (Value.long z))) (by unfold j_A_squareAt; rw [if_neg c_1, if_pos c_7]), ht⟩) (fun q h => by cases h) d_A_squareAt_23
    · skip
      refine lv_aload_n hx hb d_A_squareAt_10 rfl (lv_at hl 0 rfl) ?_
      refine va_get (D := (dC, dI)) (ci := 0) (v := .ref ar) (C := "RoomEchoes$Axis") (T := FT_A) (N := 5) hx hb hts (hi_ in_A) hown hK hP 0 rfl rfl 3 (by decide) (ht_ hts mw82) (fun _ h9 => h9) rfl d_A_squareAt_11 ?_
      refine lv_iload_n hx hb d_A_squareAt_14 rfl (lv_at hl 1 rfl) ?_
      refine va_lald hx hb hK hP 1 1 rfl rfl (in_ge c_1 c_7 rfl) d_A_squareAt_15 ?_
      refine lv_bipush (v := 7) hx hb d_A_squareAt_16 (by decide) ?_
      refine lv_lshr hx hb d_A_squareAt_18 rfl ?_
      refine lv_goto (tgt := 23) hx hb d_A_squareAt_19 (by decide) ?_
      exact W.lret (v := (r n.toNatClampNeg) >>> ((7 : Int32).toInt64 &&& 63)) hx hb hr (fun t ht hW => ⟨congrArg (fun z => Outcome.returned (some (Value.long z))) (by unfold j_A_squareAt; rw [if_neg c_1, if_neg c_7]), ht⟩) (fun q h => by cases h) d_A_squareAt_23

def j_A_numberAt (r : Nat → Int64) (n : Int32) : Int32 := if n < 0 then 0 else (if 81 ≤ n then 0 else j_R_lowestNumberIn (r n.toNatClampNeg))
set_option maxHeartbeats 4000000 in
set_option maxRecDepth 100000 in
theorem c_A_numberAt (l : Launch) (dC : Nat → ClassId) (dI : Nat → Nat → Nat) (cI cL : ClassId) (aA : Nat) (w : Int32) (sc : Int32) (li : Int32) (ar : Nat) (ak : Nat) (r : Nat → Int64) (n : Int32) : Met l y_A_numberAt w_A_numberAt ({ frames := 1, cells := 0, slots := 0, locals := 21 }) (rd_P (dC, dI) cI cL [(aA, .inr (0, [.int w, .int sc, .int li, .ref ar, .ref ak])), (ar, .inl (cL, 81, .inr (.inl r)))] [.ref aA, .int n]) (k2_QcV (.int (j_A_numberAt r n))) 0 0 (fun _ => False) := by
  refine Met.ofW (cc := b_A_numberAt) (maxL := 2) (ret := (some .int)) (by decide) rfl ?_
  intro p e s m args below meth c s₁ B hml hv
  obtain ⟨rfl, hP, hM⟩ := hv
  have hx := B.exec
  have hb := B.bytes
  have hr := B.returns
  have hts := atoms_spec (ws := w_A_numberAt) B.pre
  have hown : s.vm.findClass "RoomEchoes$Axis" = some m.cls := findClass_of_methodNamed B.named
  have hlocks := B.notSynchronized
  have hK := hM.1
  have hl := lv_entry ([.ref aA, .int n]) (n := 2) (Nat.le_of_ble_eq_true rfl)
  rw [lg_entry_eq]
  generalize (lg_sl ([.ref aA, .int n]) ++ List.replicate (2 - (lg_sl ([.ref aA, .int n])).length) Slot.unset).toArray = ls at hl ⊢
  have hl : lv_has ls 2 [(0, .ref aA), (1, .int n)] := hl
  refine lv_iload_n hx hb d_A_numberAt_0 rfl (lv_at hl 1 rfl) ?_
  refine lv_if_lt (tgt := 22) hx hb d_A_numberAt_1 (by decide) (fun c_1 => ?_) (fun c_1 => ?_)
  · skip
    refine lv_iconst (v := 0) hx hb d_A_numberAt_22 (by decide) ?_
    exact W.iret (v := 0) hx hb hr (fun t ht hW => ⟨congrArg (fun z => Outcome.returned (some (Value.int z))) (by unfold j_A_numberAt; rw [if_pos c_1]), ht⟩) (fun q h => by cases h) d_A_numberAt_23
  · skip
    refine lv_iload_n hx hb d_A_numberAt_4 rfl (lv_at hl 1 rfl) ?_
    refine lv_bipush (v := 81) hx hb d_A_numberAt_5 (by decide) ?_
    refine lv_icmp_ge (tgt := 22) hx hb d_A_numberAt_7 (by decide) (fun c_7 => ?_) (fun c_7 => ?_)
    · skip
      refine lv_iconst (v := 0) hx hb d_A_numberAt_22 (by decide) ?_
      exact W.iret (v := 0) hx hb hr (fun t ht hW => ⟨congrArg (fun z => Outcome.returned (some (Value.int z))) (by unfold j_A_numberAt; rw [if_neg c_1, if_pos c_7]), ht⟩) (fun q h => by cases h) d_A_numberAt_23
    · skip
      refine lv_aload_n hx hb d_A_numberAt_10 rfl (lv_at hl 0 rfl) ?_
      refine va_get (D := (dC, dI)) (ci := 0) (v := .ref ar) (C := "RoomEchoes$Axis") (T := FT_A) (N := 5) hx hb hts (hi_ in_A) hown hK hP 0 rfl rfl 3 (by decide) (ht_ hts mw82) (fun _ h9 => h9) rfl d_A_numberAt_11 ?_
      refine lv_iload_n hx hb d_A_numberAt_14 rfl (lv_at hl 1 rfl) ?_
      refine va_lald hx hb hK hP 1 1 rfl rfl (in_ge c_1 c_7 rfl) d_A_numberAt_15 ?_
      refine rd_c (va_runSN (As := [.long (r n.toNatClampNeg)]) (rest := []) ⟨hx, hb, hml, hown, hts⟩ (c_R_lowestNumberIn l (r n.toNatClampNeg)) ⟨va_cnB 1 hts (gi_0 mw303) rfl rfl rfl hM.2.2.2.1 (ht_ hts mw29) (by decide +kernel) ⟨Nat.le_of_ble_eq_true rfl, Nat.le_of_ble_eq_true rfl⟩, ht_ hts mw302, trivial⟩ st_S rfl rfl hl.1 rfl (lv_room (Nat.le_of_ble_eq_true rfl)) d_A_numberAt_16 ⟨Nat.le_of_ble_eq_true rfl, Nat.le_of_ble_eq_true rfl⟩) ?_
      refine lv_goto (tgt := 23) hx hb d_A_numberAt_19 (by decide) ?_
      exact W.iret (v := j_R_lowestNumberIn (r n.toNatClampNeg)) hx hb hr (fun t ht hW => ⟨congrArg (fun z => Outcome.returned (some (Value.int z))) (by unfold j_A_numberAt; rw [if_neg c_1, if_neg c_7]), ht⟩) (fun q h => by cases h) d_A_numberAt_23

def j_A_rankOf (k : Nat → Int32) (n : Int32) : Int32 := if (n + 40) < 0 then 81 else (if 81 ≤ (n + 40) then 81 else k (n + 40).toNatClampNeg)
set_option maxHeartbeats 4000000 in
set_option maxRecDepth 100000 in
theorem c_A_rankOf (l : Launch) (dC : Nat → ClassId) (dI : Nat → Nat → Nat) (cI cL : ClassId) (aA : Nat) (w : Int32) (sc : Int32) (li : Int32) (ar : Nat) (ak : Nat) (k : Nat → Int32) (n : Int32) : Met l y_A_rankOf w_A_rankOf ({ frames := 0, cells := 0, slots := 0, locals := 0 }) (rd_P (dC, dI) cI cL [(aA, .inr (0, [.int w, .int sc, .int li, .ref ar, .ref ak])), (ak, .inl (cI, 81, .inl k))] [.ref aA, .int n]) (k2_QcV (.int (j_A_rankOf k n))) 0 0 (fun _ => False) := by
  refine Met.ofW (cc := b_A_rankOf) (maxL := 3) (ret := (some .int)) (by decide) rfl ?_
  intro p e s m args below meth c s₁ B hml hv
  obtain ⟨rfl, hP, hM⟩ := hv
  have hx := B.exec
  have hb := B.bytes
  have hr := B.returns
  have hts := atoms_spec (ws := w_A_rankOf) B.pre
  have hown : s.vm.findClass "RoomEchoes$Axis" = some m.cls := findClass_of_methodNamed B.named
  have hlocks := B.notSynchronized
  have hK := hM.1
  have hl := lv_entry ([.ref aA, .int n]) (n := 3) (Nat.le_of_ble_eq_true rfl)
  rw [lg_entry_eq]
  generalize (lg_sl ([.ref aA, .int n]) ++ List.replicate (3 - (lg_sl ([.ref aA, .int n])).length) Slot.unset).toArray = ls at hl ⊢
  have hl : lv_has ls 3 [(0, .ref aA), (1, .int n)] := hl
  refine lv_iload_n hx hb d_A_rankOf_0 rfl (lv_at hl 1 rfl) ?_
  refine lv_bipush (v := 40) hx hb d_A_rankOf_1 (by decide) ?_
  refine lv_iadd hx hb d_A_rankOf_3 ?_
  refine lv_istore_n (lv' := [(2, .int (n + 40)), (0, .ref aA), (1, .int n)]) hx hb d_A_rankOf_4 rfl hl (by decide) rfl (fun ls hl => ?_)
  refine lv_iload_n hx hb d_A_rankOf_5 rfl (lv_at hl 0 rfl) ?_
  refine lv_if_lt (tgt := 24) hx hb d_A_rankOf_6 (by decide) (fun c_6 => ?_) (fun c_6 => ?_)
  · skip
    refine lv_bipush (v := 81) hx hb d_A_rankOf_24 (by decide) ?_
    exact W.iret (v := 81) hx hb hr (fun t ht hW => ⟨congrArg (fun z => Outcome.returned (some (Value.int z))) (by unfold j_A_rankOf; rw [if_pos c_6]), ht⟩) (fun q h => by cases h) d_A_rankOf_26
  · skip
    refine lv_iload_n hx hb d_A_rankOf_9 rfl (lv_at hl 0 rfl) ?_
    refine lv_bipush (v := 81) hx hb d_A_rankOf_10 (by decide) ?_
    refine lv_icmp_ge (tgt := 24) hx hb d_A_rankOf_12 (by decide) (fun c_12 => ?_) (fun c_12 => ?_)
    · skip
      refine lv_bipush (v := 81) hx hb d_A_rankOf_24 (by decide) ?_
      exact W.iret (v := 81) hx hb hr (fun t ht hW => ⟨congrArg (fun z => Outcome.returned (some (Value.int z))) (by unfold j_A_rankOf; rw [if_neg c_6, if_pos c_12]), ht⟩) (fun q h => by cases h) d_A_rankOf_26
    · skip
      refine lv_aload_n hx hb d_A_rankOf_15 rfl (lv_at hl 1 rfl) ?_
      refine va_get (D := (dC, dI)) (ci := 0) (v := .ref ak) (C := "RoomEchoes$Axis") (T := FT_A) (N := 5) hx hb hts (hi_ in_A) hown hK hP 0 rfl rfl 4 (by decide) (ht_ hts mw83) (fun _ h9 => h9) rfl d_A_rankOf_16 ?_
      refine lv_iload_n hx hb d_A_rankOf_19 rfl (lv_at hl 0 rfl) ?_
      refine va_iald hx hb hK hP 1 0 rfl rfl (in_ge c_6 c_12 rfl) d_A_rankOf_20 ?_
      refine lv_goto (tgt := 26) hx hb d_A_rankOf_21 (by decide) ?_
      exact W.iret (v := k (n + 40).toNatClampNeg) hx hb hr (fun t ht hW => ⟨congrArg (fun z => Outcome.returned (some (Value.int z))) (by unfold j_A_rankOf; rw [if_neg c_6, if_neg c_12]), ht⟩) (fun q h => by cases h) d_A_rankOf_26

def j_R_distanceOf (wX : Int32) (sX : Int32) (tX : Int32) (wY : Int32) (sY : Int32) (tY : Int32) (wZ : Int32) (sZ : Int32) (tZ : Int32) (a : Int32) (b : Int32) (c9 : Int32) : Int64 := ((j_A_squareTo wX sX tX a) + (j_A_squareTo wY sY tY b)) + (j_A_squareTo wZ sZ tZ c9)
set_option maxHeartbeats 4000000 in
set_option maxRecDepth 100000 in
theorem c_R_distanceOf (l : Launch) (dC : Nat → ClassId) (dI : Nat → Nat → Nat) (cI cL : ClassId) (aR : Nat) (aX : Nat) (aY : Nat) (aZ : Nat) (aK : Nat) (aF : Nat) (aE : Nat) (aL : Nat) (od : Int32) (wd : Int32) (wX : Int32) (sX : Int32) (tX : Int32) (rX : Nat) (kX : Nat) (wY : Int32) (sY : Int32) (tY : Int32) (rY : Nat) (kY : Nat) (wZ : Int32) (sZ : Int32) (tZ : Int32) (rZ : Nat) (kZ : Nat) (a : Int32) (b : Int32) (c9 : Int32) : Met l y_R_distanceOf w_R_distanceOf ({ frames := 2, cells := 0, slots := 0, locals := 45 }) (rd_P (dC, dI) cI cL [(aR, .inr (2, [.ref aX, .ref aY, .ref aZ, .ref aK, .ref aF, .ref aE, .ref aL, .int od, .int wd])), (aX, .inr (0, [.int wX, .int sX, .int tX, .ref rX, .ref kX])), (aY, .inr (0, [.int wY, .int sY, .int tY, .ref rY, .ref kY])), (aZ, .inr (0, [.int wZ, .int sZ, .int tZ, .ref rZ, .ref kZ]))] [.ref aR, .int a, .int b, .int c9]) (k2_QcV (.long (j_R_distanceOf wX sX tX wY sY tY wZ sZ tZ a b c9))) 0 0 (fun _ => False) := by
  refine Met.ofW (cc := b_R_distanceOf) (maxL := 4) (ret := (some .long)) (by decide) rfl ?_
  intro p e s m args below meth c s₁ B hml hv
  obtain ⟨rfl, hP, hM⟩ := hv
  have hx := B.exec
  have hb := B.bytes
  have hr := B.returns
  have hts := atoms_spec (ws := w_R_distanceOf) B.pre
  have hown : s.vm.findClass "RoomEchoes" = some m.cls := findClass_of_methodNamed B.named
  have hlocks := B.notSynchronized
  have hK := hM.1
  have hl := lv_entry ([.ref aR, .int a, .int b, .int c9]) (n := 4) (Nat.le_of_ble_eq_true rfl)
  rw [lg_entry_eq]
  generalize (lg_sl ([.ref aR, .int a, .int b, .int c9]) ++ List.replicate (4 - (lg_sl ([.ref aR, .int a, .int b, .int c9])).length) Slot.unset).toArray = ls at hl ⊢
  have hl : lv_has ls 4 [(0, .ref aR), (1, .int a), (2, .int b), (3, .int c9)] := hl
  refine lv_aload_n hx hb d_R_distanceOf_0 rfl (lv_at hl 0 rfl) ?_
  refine va_get (D := (dC, dI)) (ci := 2) (v := .ref aX) (C := "RoomEchoes") (T := FT_R) (N := 9) hx hb hts (hi_ in_R) hown hK hP 0 rfl rfl 0 (by decide) (ht_ hts mw95) (fun _ h9 => h9) rfl d_R_distanceOf_1 ?_
  refine lv_iload_n hx hb d_R_distanceOf_4 rfl (lv_at hl 1 rfl) ?_
  have hPc := hP.sub (ws' := [(aX, .inr (0, [.int wX, .int sX, .int tX, .ref rX, .ref kX]))]) [1] rfl
  refine rd_c (va_runV (As := [.int a]) (rest := []) ⟨hx, hb, hml, hown, hts⟩ (c_A_squareTo l dC dI cI cL aX wX sX tX rX kX a) (cwV 1 hts (gi_V mw242 mw239 mw240 mw241 mw31) rfl rfl rfl (by decide +kernel) ⟨Nat.le_of_ble_eq_true rfl, Nat.le_of_ble_eq_true rfl⟩) (rd_V hM hPc rfl rfl rfl) rfl rfl hl.1 rfl (lv_room (Nat.le_of_ble_eq_true rfl)) d_R_distanceOf_5 ⟨Nat.le_of_ble_eq_true rfl, Nat.le_of_ble_eq_true rfl⟩) ?_
  refine lv_aload_n hx hb d_R_distanceOf_8 rfl (lv_at hl 0 rfl) ?_
  refine va_get (D := (dC, dI)) (ci := 2) (v := .ref aY) (C := "RoomEchoes") (T := FT_R) (N := 9) hx hb hts (hi_ in_R) hown hK hP 0 rfl rfl 1 (by decide) (ht_ hts mw96) (fun _ h9 => h9) rfl d_R_distanceOf_9 ?_
  refine lv_iload_n hx hb d_R_distanceOf_12 rfl (lv_at hl 2 rfl) ?_
  have hPc := hP.sub (ws' := [(aY, .inr (0, [.int wY, .int sY, .int tY, .ref rY, .ref kY]))]) [2] rfl
  refine rd_c (va_runV (As := [.int b]) (rest := [.long (j_A_squareTo wX sX tX a)]) ⟨hx, hb, hml, hown, hts⟩ (c_A_squareTo l dC dI cI cL aY wY sY tY rY kY b) (cwV 1 hts (gi_V mw242 mw239 mw240 mw241 mw31) rfl rfl rfl (by decide +kernel) ⟨Nat.le_of_ble_eq_true rfl, Nat.le_of_ble_eq_true rfl⟩) (rd_V hM hPc rfl rfl rfl) rfl rfl hl.1 rfl (lv_room (Nat.le_of_ble_eq_true rfl)) d_R_distanceOf_13 ⟨Nat.le_of_ble_eq_true rfl, Nat.le_of_ble_eq_true rfl⟩) ?_
  refine lv_ladd hx hb d_R_distanceOf_16 ?_
  refine lv_aload_n hx hb d_R_distanceOf_17 rfl (lv_at hl 0 rfl) ?_
  refine va_get (D := (dC, dI)) (ci := 2) (v := .ref aZ) (C := "RoomEchoes") (T := FT_R) (N := 9) hx hb hts (hi_ in_R) hown hK hP 0 rfl rfl 2 (by decide) (ht_ hts mw97) (fun _ h9 => h9) rfl d_R_distanceOf_18 ?_
  refine lv_iload_n hx hb d_R_distanceOf_21 rfl (lv_at hl 3 rfl) ?_
  have hPc := hP.sub (ws' := [(aZ, .inr (0, [.int wZ, .int sZ, .int tZ, .ref rZ, .ref kZ]))]) [3] rfl
  refine rd_c (va_runV (As := [.int c9]) (rest := [.long ((j_A_squareTo wX sX tX a) + (j_A_squareTo wY sY tY b))]) ⟨hx, hb, hml, hown, hts⟩ (c_A_squareTo l dC dI cI cL aZ wZ sZ tZ rZ kZ c9) (cwV 1 hts (gi_V mw242 mw239 mw240 mw241 mw31) rfl rfl rfl (by decide +kernel) ⟨Nat.le_of_ble_eq_true rfl, Nat.le_of_ble_eq_true rfl⟩) (rd_V hM hPc rfl rfl rfl) rfl rfl hl.1 rfl (lv_room (Nat.le_of_ble_eq_true rfl)) d_R_distanceOf_22 ⟨Nat.le_of_ble_eq_true rfl, Nat.le_of_ble_eq_true rfl⟩) ?_
  refine lv_ladd hx hb d_R_distanceOf_25 ?_
  exact W.lret (v := ((j_A_squareTo wX sX tX a) + (j_A_squareTo wY sY tY b)) + (j_A_squareTo wZ sZ tZ c9)) hx hb hr (fun t ht hW => ⟨congrArg (fun z => Outcome.returned (some (Value.long z))) (by unfold j_R_distanceOf; rfl), ht⟩) (fun q h => by cases h) d_R_distanceOf_26

def j_R_strengthOf (kp : Nat → Int32) (a : Int32) (b : Int32) (c9 : Int32) : Int64 := j_R_strengthAfterAxis (j_R_strengthAfterAxis (j_R_strengthAfterAxis 1000000000 a (kp 0) (kp 1)) b (kp 2) (kp 3)) c9 (kp 4) (kp 5)
set_option maxHeartbeats 4000000 in
set_option maxRecDepth 100000 in
theorem c_R_strengthOf (l : Launch) (dC : Nat → ClassId) (dI : Nat → Nat → Nat) (cI cL : ClassId) (aR : Nat) (aX : Nat) (aY : Nat) (aZ : Nat) (aK : Nat) (aF : Nat) (aE : Nat) (aL : Nat) (od : Int32) (wd : Int32) (kp : Nat → Int32) (a : Int32) (b : Int32) (c9 : Int32) : Met l y_R_strengthOf w_R_strengthOf ({ frames := 2, cells := 0, slots := 0, locals := 52 }) (rd_P (dC, dI) cI cL [(aR, .inr (2, [.ref aX, .ref aY, .ref aZ, .ref aK, .ref aF, .ref aE, .ref aL, .int od, .int wd])), (aK, .inl (cI, 6, .inl kp))] [.ref aR, .int a, .int b, .int c9]) (k2_QcV (.long (j_R_strengthOf kp a b c9))) 0 0 (fun _ => False) := by
  refine Met.ofW (cc := b_R_strengthOf) (maxL := 8) (ret := (some .long)) (by decide) rfl ?_
  intro p e s m args below meth c s₁ B hml hv
  obtain ⟨rfl, hP, hM⟩ := hv
  have hx := B.exec
  have hb := B.bytes
  have hr := B.returns
  have hts := atoms_spec (ws := w_R_strengthOf) B.pre
  have hown : s.vm.findClass "RoomEchoes" = some m.cls := findClass_of_methodNamed B.named
  have hlocks := B.notSynchronized
  have hK := hM.1
  have hl := lv_entry ([.ref aR, .int a, .int b, .int c9]) (n := 8) (Nat.le_of_ble_eq_true rfl)
  rw [lg_entry_eq]
  generalize (lg_sl ([.ref aR, .int a, .int b, .int c9]) ++ List.replicate (8 - (lg_sl ([.ref aR, .int a, .int b, .int c9])).length) Slot.unset).toArray = ls at hl ⊢
  have hl : lv_has ls 8 [(0, .ref aR), (1, .int a), (2, .int b), (3, .int c9)] := hl
  refine lv_ldc2 (v := 1000000000) hx hb hown (ht_ hts mw251) d_R_strengthOf_0 ?_
  refine lv_iload_n hx hb d_R_strengthOf_3 rfl (lv_at hl 1 rfl) ?_
  refine lv_aload_n hx hb d_R_strengthOf_4 rfl (lv_at hl 0 rfl) ?_
  refine va_get (D := (dC, dI)) (ci := 2) (v := .ref aK) (C := "RoomEchoes") (T := FT_R) (N := 9) hx hb hts (hi_ in_R) hown hK hP 0 rfl rfl 3 (by decide) (ht_ hts mw98) (fun _ h9 => h9) rfl d_R_strengthOf_5 ?_
  refine lv_iconst (v := 0) hx hb d_R_strengthOf_8 (by decide) ?_
  refine va_iald hx hb hK hP 1 0 rfl rfl (by unfold vp_in; decide) d_R_strengthOf_9 ?_
  refine tp_i (kp 0) rfl ?_
  refine lv_aload_n hx hb d_R_strengthOf_10 rfl (lv_at hl 0 rfl) ?_
  refine va_get (D := (dC, dI)) (ci := 2) (v := .ref aK) (C := "RoomEchoes") (T := FT_R) (N := 9) hx hb hts (hi_ in_R) hown hK hP 0 rfl rfl 3 (by decide) (ht_ hts mw98) (fun _ h9 => h9) rfl d_R_strengthOf_11 ?_
  refine lv_iconst (v := 1) hx hb d_R_strengthOf_14 (by decide) ?_
  refine va_iald hx hb hK hP 1 0 rfl rfl (by unfold vp_in; decide) d_R_strengthOf_15 ?_
  refine tp_i (kp 1) rfl ?_
  refine rd_c (va_runS (As := [.long 1000000000, .int a, .int (kp 0), .int (kp 1)]) (rest := []) ⟨hx, hb, hml, hown, hts⟩ (c_R_strengthAfterAxis l 1000000000 a (kp 0) (kp 1)) (cwS 4 hts (gi_S mw254 mw252 mw253 mw29) rfl rfl rfl (by decide +kernel) ⟨Nat.le_of_ble_eq_true rfl, Nat.le_of_ble_eq_true rfl⟩) st_S rfl rfl hl.1 rfl (lv_room (Nat.le_of_ble_eq_true rfl)) d_R_strengthOf_16 ⟨Nat.le_of_ble_eq_true rfl, Nat.le_of_ble_eq_true rfl⟩) ?_
  refine lv_lstore (lv' := [(4, .long (j_R_strengthAfterAxis 1000000000 a (kp 0) (kp 1))), (0, .ref aR), (1, .int a), (2, .int b), (3, .int c9)]) hx hb d_R_strengthOf_19 hl (by decide) rfl (fun ls hl => ?_)
  refine lv_lload hx hb d_R_strengthOf_21 (lv_at hl 0 rfl) ?_
  refine lv_iload_n hx hb d_R_strengthOf_23 rfl (lv_at hl 3 rfl) ?_
  refine lv_aload_n hx hb d_R_strengthOf_24 rfl (lv_at hl 1 rfl) ?_
  refine va_get (D := (dC, dI)) (ci := 2) (v := .ref aK) (C := "RoomEchoes") (T := FT_R) (N := 9) hx hb hts (hi_ in_R) hown hK hP 0 rfl rfl 3 (by decide) (ht_ hts mw98) (fun _ h9 => h9) rfl d_R_strengthOf_25 ?_
  refine lv_iconst (v := 2) hx hb d_R_strengthOf_28 (by decide) ?_
  refine va_iald hx hb hK hP 1 0 rfl rfl (by unfold vp_in; decide) d_R_strengthOf_29 ?_
  refine tp_i (kp 2) rfl ?_
  refine lv_aload_n hx hb d_R_strengthOf_30 rfl (lv_at hl 1 rfl) ?_
  refine va_get (D := (dC, dI)) (ci := 2) (v := .ref aK) (C := "RoomEchoes") (T := FT_R) (N := 9) hx hb hts (hi_ in_R) hown hK hP 0 rfl rfl 3 (by decide) (ht_ hts mw98) (fun _ h9 => h9) rfl d_R_strengthOf_31 ?_
  refine lv_iconst (v := 3) hx hb d_R_strengthOf_34 (by decide) ?_
  refine va_iald hx hb hK hP 1 0 rfl rfl (by unfold vp_in; decide) d_R_strengthOf_35 ?_
  refine tp_i (kp 3) rfl ?_
  refine rd_c (va_runS (As := [.long (j_R_strengthAfterAxis 1000000000 a (kp 0) (kp 1)), .int b, .int (kp 2), .int (kp 3)]) (rest := []) ⟨hx, hb, hml, hown, hts⟩ (c_R_strengthAfterAxis l (j_R_strengthAfterAxis 1000000000 a (kp 0) (kp 1)) b (kp 2) (kp 3)) (cwS 4 hts (gi_S mw254 mw252 mw253 mw29) rfl rfl rfl (by decide +kernel) ⟨Nat.le_of_ble_eq_true rfl, Nat.le_of_ble_eq_true rfl⟩) st_S rfl rfl hl.1 rfl (lv_room (Nat.le_of_ble_eq_true rfl)) d_R_strengthOf_36 ⟨Nat.le_of_ble_eq_true rfl, Nat.le_of_ble_eq_true rfl⟩) ?_
  refine lv_lstore (lv' := [(6, .long (j_R_strengthAfterAxis (j_R_strengthAfterAxis 1000000000 a (kp 0) (kp 1)) b (kp 2) (kp 3))), (4, .long (j_R_strengthAfterAxis 1000000000 a (kp 0) (kp 1))), (0, .ref aR), (1, .int a), (2, .int b), (3, .int c9)]) hx hb d_R_strengthOf_39 hl (by decide) rfl (fun ls hl => ?_)
  refine lv_lload hx hb d_R_strengthOf_41 (lv_at hl 0 rfl) ?_
  refine lv_iload_n hx hb d_R_strengthOf_43 rfl (lv_at hl 5 rfl) ?_
  refine lv_aload_n hx hb d_R_strengthOf_44 rfl (lv_at hl 2 rfl) ?_
  refine va_get (D := (dC, dI)) (ci := 2) (v := .ref aK) (C := "RoomEchoes") (T := FT_R) (N := 9) hx hb hts (hi_ in_R) hown hK hP 0 rfl rfl 3 (by decide) (ht_ hts mw98) (fun _ h9 => h9) rfl d_R_strengthOf_45 ?_
  refine lv_iconst (v := 4) hx hb d_R_strengthOf_48 (by decide) ?_
  refine va_iald hx hb hK hP 1 0 rfl rfl (by unfold vp_in; decide) d_R_strengthOf_49 ?_
  refine tp_i (kp 4) rfl ?_
  refine lv_aload_n hx hb d_R_strengthOf_50 rfl (lv_at hl 2 rfl) ?_
  refine va_get (D := (dC, dI)) (ci := 2) (v := .ref aK) (C := "RoomEchoes") (T := FT_R) (N := 9) hx hb hts (hi_ in_R) hown hK hP 0 rfl rfl 3 (by decide) (ht_ hts mw98) (fun _ h9 => h9) rfl d_R_strengthOf_51 ?_
  refine lv_iconst (v := 5) hx hb d_R_strengthOf_54 (by decide) ?_
  refine va_iald hx hb hK hP 1 0 rfl rfl (by unfold vp_in; decide) d_R_strengthOf_55 ?_
  refine tp_i (kp 5) rfl ?_
  refine rd_c (va_runS (As := [.long (j_R_strengthAfterAxis (j_R_strengthAfterAxis 1000000000 a (kp 0) (kp 1)) b (kp 2) (kp 3)), .int c9, .int (kp 4), .int (kp 5)]) (rest := []) ⟨hx, hb, hml, hown, hts⟩ (c_R_strengthAfterAxis l (j_R_strengthAfterAxis (j_R_strengthAfterAxis 1000000000 a (kp 0) (kp 1)) b (kp 2) (kp 3)) c9 (kp 4) (kp 5)) (cwS 4 hts (gi_S mw254 mw252 mw253 mw29) rfl rfl rfl (by decide +kernel) ⟨Nat.le_of_ble_eq_true rfl, Nat.le_of_ble_eq_true rfl⟩) st_S rfl rfl hl.1 rfl (lv_room (Nat.le_of_ble_eq_true rfl)) d_R_strengthOf_56 ⟨Nat.le_of_ble_eq_true rfl, Nat.le_of_ble_eq_true rfl⟩) ?_
  exact W.lret (v := j_R_strengthAfterAxis (j_R_strengthAfterAxis (j_R_strengthAfterAxis 1000000000 a (kp 0) (kp 1)) b (kp 2) (kp 3)) c9 (kp 4) (kp 5)) hx hb hr (fun t ht hW => ⟨congrArg (fun z => Outcome.returned (some (Value.long z))) (by unfold j_R_strengthOf; rfl), ht⟩) (fun q h => by cases h) d_R_strengthOf_59

def j_cw (E : Nat → Int64) (d : Int64) : Nat → Nat → Nat
  | 0, i => i
  | n + 1, i => if d < j_R_distanceIn (E i) then i else j_cw E d n (i + 1)
def j_sum (f : Nat → Int64) (a : Nat) : Nat → Int64
  | 0 => 0
  | n + 1 => j_sum f a n + f (a + n)
theorem nu_max {f : Nat} (hf : f < 2147483648) : (if (0 : Int32) < nI f then nI f else 0) = nI f := by
  by_cases h : (0 : Int32) < nI f
  · rw [if_pos h]
  · rw [if_neg h]
    rw [Int32.lt_iff_toInt_lt, nI_toInt hf] at h
    have h0 : (0 : Int32).toInt = 0 := rfl
    have : f = 0 := by omega
    rw [this, nI_0]
theorem lc_1 {n l : Nat} {f : Nat → Int64} (hn : n < 2147483648) (hl : l + 1 < 2147483648) (h : nI n ≤ nI (l + 1)) : nI l = nI (pu_lc n f l) := by
  rw [nI_leI hn hl] at h
  unfold pu_lc
  rw [if_neg (by omega)]
theorem lc_2 {n l : Nat} {f : Nat → Int64} (h : f l ≤ f (l + 1)) : nI l = nI (pu_lc n f l) := by
  unfold pu_lc
  rw [if_neg (fun q => by have := q.2; rw [pu_lt] at this; rw [pu_le] at h; omega)]
theorem lc_3 {n l : Nat} {f : Nat → Int64} (hn : n < 2147483648) (hl : l + 1 < 2147483648) (h1 : ¬ nI n ≤ nI (l + 1)) (h : ¬ f l ≤ f (l + 1)) : nI (l + 1) = nI (pu_lc n f l) := by
  rw [nI_leI hn hl] at h1
  unfold pu_lc
  rw [if_pos ⟨by omega, pu_nle h⟩]

set_option maxHeartbeats 4000000 in
set_option maxRecDepth 100000 in
theorem c_R_countWithin (l : Launch) (dC : Nat → ClassId) (dI : Nat → Nat → Nat) (cI cL : ClassId) (aR : Nat) (aX : Nat) (aY : Nat) (aZ : Nat) (aK : Nat) (aF : Nat) (aE : Nat) (aL : Nat) (od : Int32) (wd : Int32) (E : Nat → Int64) (d : Int64) : Met l y_R_countWithin w_R_countWithin ({ frames := 1, cells := 0, slots := 0, locals := 21 }) (rd_P (dC, dI) cI cL [(aR, .inr (2, [.ref aX, .ref aY, .ref aZ, .ref aK, .ref aF, .ref aE, .ref aL, .int od, .int wd])), (aE, .inl (cL, 500, .inr (.inl E)))] [.ref aR, .long d]) (k2_QcV (.int (nI (j_cw E d 500 0)))) 0 0 (fun _ => False) := by
  refine Met.ofW (cc := b_R_countWithin) (maxL := 4) (ret := (some .int)) (by decide) rfl ?_
  intro p e s m args below meth c s₁ B hml hv
  obtain ⟨rfl, hP, hM⟩ := hv
  have hx := B.exec
  have hb := B.bytes
  have hr := B.returns
  have hts := atoms_spec (ws := w_R_countWithin) B.pre
  have hown : s.vm.findClass "RoomEchoes" = some m.cls := findClass_of_methodNamed B.named
  have hlocks := B.notSynchronized
  have hK := hM.1
  have hl := lv_entry ([.ref aR, .long d]) (n := 4) (Nat.le_of_ble_eq_true rfl)
  rw [lg_entry_eq]
  generalize (lg_sl ([.ref aR, .long d]) ++ List.replicate (4 - (lg_sl ([.ref aR, .long d])).length) Slot.unset).toArray = ls at hl ⊢
  have hl : lv_has ls 4 [(0, .ref aR), (1, .long d)] := hl
  refine lv_iconst (v := 0) hx hb d_R_countWithin_0 (by decide) ?_
  refine lv_istore_n (lv' := [(3, .int 0), (0, .ref aR), (1, .long d)]) hx hb d_R_countWithin_1 rfl hl (by decide) rfl (fun ls hl => ?_)
  have lp : ∀ (n9 : Nat) (i : Nat), 500 < i + n9 → i ≤ 500 → j_cw E d (500 - i) i = j_cw E d 500 0 → ∀ (ls : Array Slot), lv_has ls 4 [(3, .int (nI i)), (0, .ref aR), (1, .long d)] → W p l e (headSpec w_R_countWithin ({ frames := 1, cells := 0, slots := 0, locals := 21 })).room s m ([.ref aR, .long d] : List Value).toArray below meth c s.heap [] 0 0 (MQ below (k2_QcV (.int (nI (j_cw E d 500 0)))) ([.ref aR, .long d] : List Value).toArray s 0 0 (fun _ => False)) (F0 m 2 ls []) := by
    intro n9
    induction n9 with
    | zero => intro i hn hi hj ls hl; omega
    | succ n9 ih =>
      intro i hn hi hj ls hl
      refine lv_iload_n hx hb d_R_countWithin_2 rfl (lv_at hl 0 rfl) ?_
      refine lv_sipush (v := 500) hx hb d_R_countWithin_3 (by decide) ?_
      refine lv_icmp_ge (tgt := 29) hx hb d_R_countWithin_6 (by decide) (fun c_6 => ?_) (fun c_6 => ?_)
      · skip
        refine lv_iload_n hx hb d_R_countWithin_29 rfl (lv_at hl 0 rfl) ?_
        exact W.iret (v := nI i) hx hb hr (fun t ht hW => ⟨congrArg (fun z => Outcome.returned (some (Value.int z))) (by rw [← hj, show 500 - i = 0 by have : 500 ≤ i := nu_end (x := 500) (by omega) c_6; omega]; rfl), ht⟩) (fun q h => by cases h) d_R_countWithin_30
      · skip
        have i5 : i < 500 := nu_on (x := 500) (by omega) c_6
        refine lv_aload_n hx hb d_R_countWithin_9 rfl (lv_at hl 1 rfl) ?_
        refine va_get (D := (dC, dI)) (ci := 2) (v := .ref aE) (C := "RoomEchoes") (T := FT_R) (N := 9) hx hb hts (hi_ in_R) hown hK hP 0 rfl rfl 5 (by decide) (ht_ hts mw100) (fun _ h9 => h9) rfl d_R_countWithin_10 ?_
        refine lv_iload_n hx hb d_R_countWithin_13 rfl (lv_at hl 0 rfl) ?_
        refine va_lald hx hb hK hP 1 1 rfl rfl (vp_in_nI (by omega) (by omega)) d_R_countWithin_14 ?_
        refine tp_l (E i) (by rw [nI_clamp (by omega)]) ?_
        refine rd_c (va_runS (As := [.long (E i)]) (rest := []) ⟨hx, hb, hml, hown, hts⟩ (c_R_distanceIn l (E i)) (cwS 1 hts (gi_S mw377 mw375 mw376 mw29) rfl rfl rfl (by decide +kernel) ⟨Nat.le_of_ble_eq_true rfl, Nat.le_of_ble_eq_true rfl⟩) st_S rfl rfl hl.1 rfl (lv_room (Nat.le_of_ble_eq_true rfl)) d_R_countWithin_15 ⟨Nat.le_of_ble_eq_true rfl, Nat.le_of_ble_eq_true rfl⟩) ?_
        refine lv_lload_n hx hb d_R_countWithin_18 rfl (lv_at hl 2 rfl) ?_
        refine W.lcmp hx hb d_R_countWithin_19 ?_
        refine lv_if_gt (tgt := 29) hx hb d_R_countWithin_20 (by decide) (fun c_20 => ?_) (fun c_20 => ?_)
        · rw [lg_cmp_gt] at c_20
          refine lv_iload_n hx hb d_R_countWithin_29 rfl (lv_at hl 0 rfl) ?_
          exact W.iret (v := nI i) hx hb hr (fun t ht hW => ⟨congrArg (fun z => Outcome.returned (some (Value.int z))) (by rw [← hj, show 500 - i = 500 - (i + 1) + 1 by omega]; exact congrArg nI (if_pos c_20).symm), ht⟩) (fun q h => by cases h) d_R_countWithin_30
        · rw [lg_cmp_gt] at c_20
          refine lv_iinc (v := nI (i + 1)) (lv' := [(3, .int (nI (i + 1))), (0, .ref aR), (1, .long d)]) hx hb d_R_countWithin_23 hl (k := 0) rfl (nI_succ _).symm (by decide) rfl (fun ls hl => ?_)
          refine lv_goto (tgt := 2) hx hb d_R_countWithin_26 (by decide) ?_
          exact ih (i + 1) (by omega) (nu_on (x := 500) (by omega) c_6) (by rw [← hj, show 500 - i = 500 - (i + 1) + 1 by have : i < 500 := nu_on (x := 500) (by omega) c_6; omega]; exact (if_neg c_20).symm) ls (lv_sub hl [0, 1, 2] rfl)
  exact lp 501 0 (by omega) (by omega) rfl ls (lv_sub hl [0, 1, 2] rfl)

set_option maxHeartbeats 4000000 in
set_option maxRecDepth 100000 in
theorem c_R_loudnessBetween (l : Launch) (dC : Nat → ClassId) (dI : Nat → Nat → Nat) (cI cL : ClassId) (aR : Nat) (aX : Nat) (aY : Nat) (aZ : Nat) (aK : Nat) (aF : Nat) (aE : Nat) (aL : Nat) (od : Int32) (wd : Int32) (G : Nat → Int64) (fr : Nat) (en : Nat) (hfe : fr ≤ en) (he5 : en ≤ 500) : Met l y_R_loudnessBetween w_R_loudnessBetween ({ frames := 1, cells := 0, slots := 0, locals := 13 }) (rd_P (dC, dI) cI cL [(aR, .inr (2, [.ref aX, .ref aY, .ref aZ, .ref aK, .ref aF, .ref aE, .ref aL, .int od, .int wd])), (aL, .inl (cL, 500, .inr (.inl G)))] [.ref aR, .int (nI fr), .int (nI en)]) (k2_QcV (.long (j_sum G fr (en - fr)))) 0 0 (fun _ => False) := by
  refine Met.ofW (cc := b_R_loudnessBetween) (maxL := 6) (ret := (some .long)) (by decide) rfl ?_
  intro p e s m args below meth c s₁ B hml hv
  obtain ⟨rfl, hP, hM⟩ := hv
  have hx := B.exec
  have hb := B.bytes
  have hr := B.returns
  have hts := atoms_spec (ws := w_R_loudnessBetween) B.pre
  have hown : s.vm.findClass "RoomEchoes" = some m.cls := findClass_of_methodNamed B.named
  have hlocks := B.notSynchronized
  have hK := hM.1
  have hl := lv_entry ([.ref aR, .int (nI fr), .int (nI en)]) (n := 6) (Nat.le_of_ble_eq_true rfl)
  rw [lg_entry_eq]
  generalize (lg_sl ([.ref aR, .int (nI fr), .int (nI en)]) ++ List.replicate (6 - (lg_sl ([.ref aR, .int (nI fr), .int (nI en)])).length) Slot.unset).toArray = ls at hl ⊢
  have hl : lv_has ls 6 [(0, .ref aR), (1, .int (nI fr)), (2, .int (nI en))] := hl
  refine lv_lconst (v := 0) hx hb d_R_loudnessBetween_0 (by decide) ?_
  refine lv_lstore_n (lv' := [(3, .long 0), (0, .ref aR), (1, .int (nI fr)), (2, .int (nI en))]) hx hb d_R_loudnessBetween_1 rfl hl (by decide) rfl (fun ls hl => ?_)
  refine lv_iconst (v := 0) hx hb d_R_loudnessBetween_2 (by decide) ?_
  refine lv_iload_n hx hb d_R_loudnessBetween_3 rfl (lv_at hl 2 rfl) ?_
  refine va_mmax hx hb (hml.trans hl.1.symm) hown (ht_ hts mw69) (ht_ hts mw70) (ht_ hts mw32) (ht_ hts mw71) (Nat.le_of_ble_eq_true rfl) (Nat.le_of_ble_eq_true rfl) (Nat.le_of_ble_eq_true rfl) (Nat.le_of_ble_eq_true rfl) d_R_loudnessBetween_4 ?_
  refine tp_i (nI fr) (nu_max (by omega)) ?_
  refine lv_istore (lv' := [(5, .int (nI fr)), (3, .long 0), (0, .ref aR), (1, .int (nI fr)), (2, .int (nI en))]) hx hb d_R_loudnessBetween_7 hl (by decide) rfl (fun ls hl => ?_)
  have lp : ∀ (n9 : Nat) (i : Nat) (y : Int64), en < i + n9 → fr ≤ i → i ≤ en → y = j_sum G fr (i - fr) → ∀ (ls : Array Slot), lv_has ls 6 [(5, .int (nI i)), (3, .long y), (0, .ref aR), (1, .int (nI fr)), (2, .int (nI en))] → W p l e (headSpec w_R_loudnessBetween ({ frames := 1, cells := 0, slots := 0, locals := 13 })).room s m ([.ref aR, .int (nI fr), .int (nI en)] : List Value).toArray below meth c s.heap [] 0 0 (MQ below (k2_QcV (.long (j_sum G fr (en - fr)))) ([.ref aR, .int (nI fr), .int (nI en)] : List Value).toArray s 0 0 (fun _ => False)) (F0 m 9 ls []) := by
    intro n9
    induction n9 with
    | zero => intro i y hn hi hie hj ls hl; omega
    | succ n9 ih =>
      intro i y hn hi hie hj ls hl
      refine lv_iload hx hb d_R_loudnessBetween_9 (lv_at hl 0 rfl) ?_
      refine lv_iload_n hx hb d_R_loudnessBetween_11 rfl (lv_at hl 4 rfl) ?_
      refine lv_icmp_ge (tgt := 39) hx hb d_R_loudnessBetween_12 (by decide) (fun c_12 => ?_) (fun c_12 => ?_)
      · skip
        refine lv_lload_n hx hb d_R_loudnessBetween_39 rfl (lv_at hl 1 rfl) ?_
        exact W.lret (v := y) hx hb hr (fun t ht hW => ⟨congrArg (fun z => Outcome.returned (some (Value.long z))) (by rw [hj, show i = en by rw [nI_leI (by omega) (by omega)] at c_12; omega]), ht⟩) (fun q h => by cases h) d_R_loudnessBetween_40
      · skip
        have i5 : i < en := by rw [nI_leI (by omega) (by omega)] at c_12; omega
        refine lv_iload hx hb d_R_loudnessBetween_15 (lv_at hl 0 rfl) ?_
        refine lv_sipush (v := 500) hx hb d_R_loudnessBetween_17 (by decide) ?_
        refine lv_icmp_ge (tgt := 39) hx hb d_R_loudnessBetween_20 (by decide) (fun c_20 => ?_) (fun c_20 => ?_)
        · skip
          exact absurd (show nI 500 ≤ nI i from c_20) (nI_ge (by omega) (by omega))
        · skip
          refine lv_lload_n hx hb d_R_loudnessBetween_23 rfl (lv_at hl 1 rfl) ?_
          refine lv_aload_n hx hb d_R_loudnessBetween_24 rfl (lv_at hl 2 rfl) ?_
          refine va_get (D := (dC, dI)) (ci := 2) (v := .ref aL) (C := "RoomEchoes") (T := FT_R) (N := 9) hx hb hts (hi_ in_R) hown hK hP 0 rfl rfl 6 (by decide) (ht_ hts mw101) (fun _ h9 => h9) rfl d_R_loudnessBetween_25 ?_
          refine lv_iload hx hb d_R_loudnessBetween_28 (lv_at hl 0 rfl) ?_
          refine va_lald hx hb hK hP 1 1 rfl rfl (vp_in_nI (by omega) (by omega)) d_R_loudnessBetween_30 ?_
          refine tp_l (G i) (by rw [nI_clamp (by omega)]) ?_
          refine lv_ladd hx hb d_R_loudnessBetween_31 ?_
          refine lv_lstore_n (lv' := [(3, .long (y + (G i))), (5, .int (nI i)), (0, .ref aR), (1, .int (nI fr)), (2, .int (nI en))]) hx hb d_R_loudnessBetween_32 rfl hl (by decide) rfl (fun ls hl => ?_)
          refine lv_iinc (v := nI (i + 1)) (lv' := [(5, .int (nI (i + 1))), (3, .long (y + (G i))), (0, .ref aR), (1, .int (nI fr)), (2, .int (nI en))]) hx hb d_R_loudnessBetween_33 hl (k := 1) rfl (nI_succ _).symm (by decide) rfl (fun ls hl => ?_)
          refine lv_goto (tgt := 9) hx hb d_R_loudnessBetween_36 (by decide) ?_
          exact ih (i + 1) _ (by omega) (by omega) (by omega) (by rw [hj, show i + 1 - fr = i - fr + 1 by omega]; show j_sum G fr (i - fr) + G i = j_sum G fr (i - fr) + G (fr + (i - fr)); rw [show fr + (i - fr) = i by omega]) ls (lv_sub hl [0, 1, 2, 3, 4] rfl)
  exact lp (en + 1) fr 0 (by omega) (by omega) (by omega) (by rw [Nat.sub_self]; rfl) ls (lv_sub hl [0, 1, 2, 3, 4] rfl)
