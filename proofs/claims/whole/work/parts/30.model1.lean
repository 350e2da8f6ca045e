set_option maxHeartbeats 4000000 in
set_option maxRecDepth 100000 in
theorem c_M_thrown (l : Launch) (dC : Nat → ClassId) (dI : Nat → Nat → Nat) (cI cL : ClassId) (aM : Nat) (th0 : Int32) (kn : Int32) (mS : Nat) (mC : Nat) (mL : Nat) (mK : Nat) (mQ : Nat) (mT : Nat) (mD : Nat) (mA : Nat) (mB : Nat) (mG : Nat) : Met l y_M_thrown w_M_thrown ({ frames := 0, cells := 0, slots := 0, locals := 0 }) (rd_P (dC, dI) cI cL [(aM, .inr (3, [.int th0, .ref mS, .ref mC, .ref mL, .ref mK, .int kn, .ref mQ, .ref mT, .ref mD, .ref mA, .ref mB, .ref mG]))] [.ref aM]) (k2_QcV (.int th0)) 0 0 (fun _ => False) := by
  refine Met.ofW (cc := b_M_thrown) (maxL := 1) (ret := (some .int)) (by decide) rfl ?_
  intro p e s m args below meth c s₁ B hml hv
  obtain ⟨rfl, hP, hM⟩ := hv
  have hx := B.exec
  have hb := B.bytes
  have hr := B.returns
  have hts := atoms_spec (ws := w_M_thrown) B.pre
  have hown : s.vm.findClass "RoomEchoesModel" = some m.cls := findClass_of_methodNamed B.named
  have hlocks := B.notSynchronized
  have hK := hM.1
  have hl := lv_entry ([.ref aM]) (n := 1) (Nat.le_of_ble_eq_true rfl)
  rw [lg_entry_eq]
  generalize (lg_sl ([.ref aM]) ++ List.replicate (1 - (lg_sl ([.ref aM])).length) Slot.unset).toArray = ls at hl ⊢
  have hl : lv_has ls 1 [(0, .ref aM)] := hl
  refine lv_aload_n hx hb d_M_thrown_0 rfl (lv_at hl 0 rfl) ?_
  refine va_get (D := (dC, dI)) (ci := 3) (v := .int th0) (C := "RoomEchoesModel") (T := FT_M) (N := 12) hx hb hts (hi_ in_M) hown hK hP 0 rfl rfl 0 (by decide) (ht_ hts mw424) (fun _ h9 => h9) rfl d_M_thrown_1 ?_
  exact W.iret (v := th0) hx hb hr (fun t ht hW => ⟨congrArg (fun z => Outcome.returned (some (Value.int z))) rfl, ht⟩) (fun q h => by cases h) d_M_thrown_4

def j_M_in (v : Int64) (lo : Int64) (hi : Int64) : Int32 := if v < lo then 0 else (if hi < v then 0 else 1)
set_option maxHeartbeats 4000000 in
set_option maxRecDepth 100000 in
theorem c_M_in (l : Launch) (v : Int64) (lo : Int64) (hi : Int64) : Met l y_M_in w_M_in ({ frames := 0, cells := 0, slots := 0, locals := 0 }) (st_P [.long v, .long lo, .long hi]) (k2_QcV (.int (j_M_in v lo hi))) 0 0 (fun _ => False) := by
  refine Met.ofW (cc := b_M_in) (maxL := 6) (ret := (some .boolean)) (by decide) rfl ?_
  intro p e s m args below meth c s₁ B hml hv
  obtain ⟨rfl, -⟩ := hv
  have hx := B.exec
  have hb := B.bytes
  have hr := B.returns
  have hts := atoms_spec (ws := w_M_in) B.pre
  have hown : s.vm.findClass "RoomEchoesModel" = some m.cls := findClass_of_methodNamed B.named
  have hlocks := B.notSynchronized
  have hl := lv_entry ([.long v, .long lo, .long hi]) (n := 6) (Nat.le_of_ble_eq_true rfl)
  rw [lg_entry_eq]
  generalize (lg_sl ([.long v, .long lo, .long hi]) ++ List.replicate (6 - (lg_sl ([.long v, .long lo, .long hi])).length) Slot.unset).toArray = ls at hl ⊢
  have hl : lv_has ls 6 [(0, .long v), (2, .long lo), (4, .long hi)] := hl
  refine lv_lload_n hx hb d_M_in_0 rfl (lv_at hl 0 rfl) ?_
  refine lv_lload_n hx hb d_M_in_1 rfl (lv_at hl 1 rfl) ?_
  refine W.lcmp hx hb d_M_in_2 ?_
  refine lv_if_lt (tgt := 17) hx hb d_M_in_3 (by decide) (fun c_3 => ?_) (fun c_3 => ?_)
  · rw [lg_cmp_lt] at c_3
    refine lv_iconst (v := 0) hx hb d_M_in_17 (by decide) ?_
    exact W.zret (v := 0) hx hb hr (by decide) (fun t ht hW => ⟨congrArg (fun z => Outcome.returned (some (Value.int z))) (by unfold j_M_in; rw [if_pos c_3]), ht⟩) (fun q h => by cases h) d_M_in_18
  · rw [lg_cmp_lt] at c_3
    refine lv_lload_n hx hb d_M_in_6 rfl (lv_at hl 0 rfl) ?_
    refine lv_lload hx hb d_M_in_7 (lv_at hl 2 rfl) ?_
    refine W.lcmp hx hb d_M_in_9 ?_
    refine lv_if_gt (tgt := 17) hx hb d_M_in_10 (by decide) (fun c_10 => ?_) (fun c_10 => ?_)
    · rw [lg_cmp_gt] at c_10
      refine lv_iconst (v := 0) hx hb d_M_in_17 (by decide) ?_
      exact W.zret (v := 0) hx hb hr (by decide) (fun t ht hW => ⟨congrArg (fun z => Outcome.returned (some (Value.int z))) (by unfold j_M_in; rw [if_neg c_3, if_pos c_10]), ht⟩) (fun q h => by cases h) d_M_in_18
    · rw [lg_cmp_gt] at c_10
      refine lv_iconst (v := 1) hx hb d_M_in_13 (by decide) ?_
      refine lv_goto (tgt := 18) hx hb d_M_in_14 (by decide) ?_
      exact W.zret (v := 1) hx hb hr (by decide) (fun t ht hW => ⟨congrArg (fun z => Outcome.returned (some (Value.int z))) (by unfold j_M_in; rw [if_neg c_3, if_neg c_10]), ht⟩) (fun q h => by cases h) d_M_in_18

def j_M_isPoint (zs : Nat → Int32) (x : Int32) (y : Int32) (z : Int32) : Int32 := if (j_M_in x.toInt64 0 ((zs 0).toInt64)) = 0 then 0 else (if (j_M_in y.toInt64 0 ((zs 1).toInt64)) = 0 then 0 else (if (j_M_in z.toInt64 0 ((zs 2).toInt64)) = 0 then 0 else 1))
set_option maxHeartbeats 4000000 in
set_option maxRecDepth 100000 in
theorem c_M_isPoint (l : Launch) (dC : Nat → ClassId) (dI : Nat → Nat → Nat) (cI cL : ClassId) (aM : Nat) (th0 : Int32) (kn : Int32) (mS : Nat) (mC : Nat) (mL : Nat) (mK : Nat) (mQ : Nat) (mT : Nat) (mD : Nat) (mA : Nat) (mB : Nat) (mG : Nat) (zs : Nat → Int32) (x : Int32) (y : Int32) (z : Int32) : Met l y_M_isPoint w_M_isPoint ({ frames := 1, cells := 0, slots := 0, locals := 25 }) (rd_P (dC, dI) cI cL [(aM, .inr (3, [.int th0, .ref mS, .ref mC, .ref mL, .ref mK, .int kn, .ref mQ, .ref mT, .ref mD, .ref mA, .ref mB, .ref mG])), (mS, .inl (cI, 3, .inl zs))] [.ref aM, .int x, .int y, .int z]) (k2_QcV (.int (j_M_isPoint zs x y z))) 0 0 (fun _ => False) := by
  refine Met.ofW (cc := b_M_isPoint) (maxL := 4) (ret := (some .boolean)) (by decide) rfl ?_
  intro p e s m args below meth c s₁ B hml hv
  obtain ⟨rfl, hP, hM⟩ := hv
  have hx := B.exec
  have hb := B.bytes
  have hr := B.returns
  have hts := atoms_spec (ws := w_M_isPoint) B.pre
  have hown : s.vm.findClass "RoomEchoesModel" = some m.cls := findClass_of_methodNamed B.named
  have hlocks := B.notSynchronized
  have hK := hM.1
  have hl := lv_entry ([.ref aM, .int x, .int y, .int z]) (n := 4) (Nat.le_of_ble_eq_true rfl)
  rw [lg_entry_eq]
  generalize (lg_sl ([.ref aM, .int x, .int y, .int z]) ++ List.replicate (4 - (lg_sl ([.ref aM, .int x, .int y, .int z])).length) Slot.unset).toArray = ls at hl ⊢
  have hl : lv_has ls 4 [(0, .ref aM), (1, .int x), (2, .int y), (3, .int z)] := hl
  refine lv_iload_n hx hb d_M_isPoint_0 rfl (lv_at hl 1 rfl) ?_
  refine lv_i2l hx hb d_M_isPoint_1 rfl ?_
  refine lv_lconst (v := 0) hx hb d_M_isPoint_2 (by decide) ?_
  refine lv_aload_n hx hb d_M_isPoint_3 rfl (lv_at hl 0 rfl) ?_
  refine va_get (D := (dC, dI)) (ci := 3) (v := .ref mS) (C := "RoomEchoesModel") (T := FT_M) (N := 12) hx hb hts (hi_ in_M) hown hK hP 0 rfl rfl 1 (by decide) (ht_ hts mw425) (fun _ h9 => h9) rfl d_M_isPoint_4 ?_
  refine lv_iconst (v := 0) hx hb d_M_isPoint_7 (by decide) ?_
  refine va_iald hx hb hK hP 1 0 rfl rfl (by unfold vp_in; decide) d_M_isPoint_8 ?_
  refine tp_i (zs 0) rfl ?_
  refine lv_i2l hx hb d_M_isPoint_9 rfl ?_
  refine rd_c (va_runS (As := [.long x.toInt64, .long 0, .long ((zs 0).toInt64)]) (rest := []) ⟨hx, hb, hml, hown, hts⟩ (c_M_in l x.toInt64 0 ((zs 0).toInt64)) (cwS 3 hts (gi_S mw475 mw473 mw474 mw33) rfl rfl rfl (by decide +kernel) ⟨Nat.le_of_ble_eq_true rfl, Nat.le_of_ble_eq_true rfl⟩) st_S rfl rfl hl.1 rfl (lv_room (Nat.le_of_ble_eq_true rfl)) d_M_isPoint_10 ⟨Nat.le_of_ble_eq_true rfl, Nat.le_of_ble_eq_true rfl⟩) ?_
  refine lv_if_eq (tgt := 52) hx hb d_M_isPoint_13 (by decide) (fun c_13 => ?_) (fun c_13 => ?_)
  · skip
    refine lv_iconst (v := 0) hx hb d_M_isPoint_52 (by decide) ?_
    exact W.zret (v := 0) hx hb hr (by decide) (fun t ht hW => ⟨congrArg (fun z => Outcome.returned (some (Value.int z))) (by unfold j_M_isPoint; rw [if_pos c_13]), ht⟩) (fun q h => by cases h) d_M_isPoint_53
  · skip
    refine lv_iload_n hx hb d_M_isPoint_16 rfl (lv_at hl 2 rfl) ?_
    refine lv_i2l hx hb d_M_isPoint_17 rfl ?_
    refine lv_lconst (v := 0) hx hb d_M_isPoint_18 (by decide) ?_
    refine lv_aload_n hx hb d_M_isPoint_19 rfl (lv_at hl 0 rfl) ?_
    refine va_get (D := (dC, dI)) (ci := 3) (v := .ref mS) (C := "RoomEchoesModel") (T := FT_M) (N := 12) hx hb hts (hi_ in_M) hown hK hP 0 rfl rfl 1 (by decide) (ht_ hts mw425) (fun _ h9 => h9) rfl d_M_isPoint_20 ?_
    refine lv_iconst (v := 1) hx hb d_M_isPoint_23 (by decide) ?_
    refine va_iald hx hb hK hP 1 0 rfl rfl (by unfold vp_in; decide) d_M_isPoint_24 ?_
    refine tp_i (zs 1) rfl ?_
    refine lv_i2l hx hb d_M_isPoint_25 rfl ?_
    refine rd_c (va_runS (As := [.long y.toInt64, .long 0, .long ((zs 1).toInt64)]) (rest := []) ⟨hx, hb, hml, hown, hts⟩ (c_M_in l y.toInt64 0 ((zs 1).toInt64)) (cwS 3 hts (gi_S mw475 mw473 mw474 mw33) rfl rfl rfl (by decide +kernel) ⟨Nat.le_of_ble_eq_true rfl, Nat.le_of_ble_eq_true rfl⟩) st_S rfl rfl hl.1 rfl (lv_room (Nat.le_of_ble_eq_true rfl)) d_M_isPoint_26 ⟨Nat.le_of_ble_eq_true rfl, Nat.le_of_ble_eq_true rfl⟩) ?_
    refine lv_if_eq (tgt := 52) hx hb d_M_isPoint_29 (by decide) (fun c_29 => ?_) (fun c_29 => ?_)
    · skip
      refine lv_iconst (v := 0) hx hb d_M_isPoint_52 (by decide) ?_
      exact W.zret (v := 0) hx hb hr (by decide) (fun t ht hW => ⟨congrArg (fun z => Outcome.returned (some (Value.int z))) (by unfold j_M_isPoint; rw [if_neg c_13, if_pos c_29]), ht⟩) (fun q h => by cases h) d_M_isPoint_53
    · skip
      refine lv_iload_n hx hb d_M_isPoint_32 rfl (lv_at hl 3 rfl) ?_
      refine lv_i2l hx hb d_M_isPoint_33 rfl ?_
      refine lv_lconst (v := 0) hx hb d_M_isPoint_34 (by decide) ?_
      refine lv_aload_n hx hb d_M_isPoint_35 rfl (lv_at hl 0 rfl) ?_
      refine va_get (D := (dC, dI)) (ci := 3) (v := .ref mS) (C := "RoomEchoesModel") (T := FT_M) (N := 12) hx hb hts (hi_ in_M) hown hK hP 0 rfl rfl 1 (by decide) (ht_ hts mw425) (fun _ h9 => h9) rfl d_M_isPoint_36 ?_
      refine lv_iconst (v := 2) hx hb d_M_isPoint_39 (by decide) ?_
      refine va_iald hx hb hK hP 1 0 rfl rfl (by unfold vp_in; decide) d_M_isPoint_40 ?_
      refine tp_i (zs 2) rfl ?_
      refine lv_i2l hx hb d_M_isPoint_41 rfl ?_
      refine rd_c (va_runS (As := [.long z.toInt64, .long 0, .long ((zs 2).toInt64)]) (rest := []) ⟨hx, hb, hml, hown, hts⟩ (c_M_in l z.toInt64 0 ((zs 2).toInt64)) (cwS 3 hts (gi_S mw475 mw473 mw474 mw33) rfl rfl rfl (by decide +kernel) ⟨Nat.le_of_ble_eq_true rfl, Nat.le_of_ble_eq_true rfl⟩) st_S rfl rfl hl.1 rfl (lv_room (Nat.le_of_ble_eq_true rfl)) d_M_isPoint_42 ⟨Nat.le_of_ble_eq_true rfl, Nat.le_of_ble_eq_true rfl⟩) ?_
      refine lv_if_eq (tgt := 52) hx hb d_M_isPoint_45 (by decide) (fun c_45 => ?_) (fun c_45 => ?_)
      · skip
        refine lv_iconst (v := 0) hx hb d_M_isPoint_52 (by decide) ?_
        exact W.zret (v := 0) hx hb hr (by decide) (fun t ht hW => ⟨congrArg (fun z => Outcome.returned (some (Value.int z))) (by unfold j_M_isPoint; rw [if_neg c_13, if_neg c_29, if_pos c_45]), ht⟩) (fun q h => by cases h) d_M_isPoint_53
      · skip
        refine lv_iconst (v := 1) hx hb d_M_isPoint_48 (by decide) ?_
        refine lv_goto (tgt := 53) hx hb d_M_isPoint_49 (by decide) ?_
        exact W.zret (v := 1) hx hb hr (by decide) (fun t ht hW => ⟨congrArg (fun z => Outcome.returned (some (Value.int z))) (by unfold j_M_isPoint; rw [if_neg c_13, if_neg c_29, if_neg c_45]), ht⟩) (fun q h => by cases h) d_M_isPoint_53

def j_M_isImage (a : Int32) (b : Int32) (c9 : Int32) : Int32 := if (j_M_in a.toInt64 (-40) 40) = 0 then 0 else (if (j_M_in b.toInt64 (-40) 40) = 0 then 0 else (if (j_M_in c9.toInt64 (-40) 40) = 0 then 0 else 1))
set_option maxHeartbeats 4000000 in
set_option maxRecDepth 100000 in
theorem c_M_isImage (l : Launch) (a : Int32) (b : Int32) (c9 : Int32) : Met l y_M_isImage w_M_isImage ({ frames := 1, cells := 0, slots := 0, locals := 25 }) (st_P [.int a, .int b, .int c9]) (k2_QcV (.int (j_M_isImage a b c9))) 0 0 (fun _ => False) := by
  refine Met.ofW (cc := b_M_isImage) (maxL := 3) (ret := (some .boolean)) (by decide) rfl ?_
  intro p e s m args below meth c s₁ B hml hv
  obtain ⟨rfl, -⟩ := hv
  have hx := B.exec
  have hb := B.bytes
  have hr := B.returns
  have hts := atoms_spec (ws := w_M_isImage) B.pre
  have hown : s.vm.findClass "RoomEchoesModel" = some m.cls := findClass_of_methodNamed B.named
  have hlocks := B.notSynchronized
  have hl := lv_entry ([.int a, .int b, .int c9]) (n := 3) (Nat.le_of_ble_eq_true rfl)
  rw [lg_entry_eq]
  generalize (lg_sl ([.int a, .int b, .int c9]) ++ List.replicate (3 - (lg_sl ([.int a, .int b, .int c9])).length) Slot.unset).toArray = ls at hl ⊢
  have hl : lv_has ls 3 [(0, .int a), (1, .int b), (2, .int c9)] := hl
  refine lv_iload_n hx hb d_M_isImage_0 rfl (lv_at hl 0 rfl) ?_
  refine lv_i2l hx hb d_M_isImage_1 rfl ?_
  refine lv_ldc2 (v := (-40)) hx hb hown (ht_ hts mw493) d_M_isImage_2 ?_
  refine lv_ldc2 (v := 40) hx hb hown (ht_ hts mw494) d_M_isImage_5 ?_
  refine rd_c (va_runS (As := [.long a.toInt64, .long (-40), .long 40]) (rest := []) ⟨hx, hb, hml, hown, hts⟩ (c_M_in l a.toInt64 (-40) 40) (cwS 3 hts (gi_S mw475 mw473 mw474 mw33) rfl rfl rfl (by decide +kernel) ⟨Nat.le_of_ble_eq_true rfl, Nat.le_of_ble_eq_true rfl⟩) st_S rfl rfl hl.1 rfl (lv_room (Nat.le_of_ble_eq_true rfl)) d_M_isImage_8 ⟨Nat.le_of_ble_eq_true rfl, Nat.le_of_ble_eq_true rfl⟩) ?_
  refine lv_if_eq (tgt := 46) hx hb d_M_isImage_11 (by decide) (fun c_11 => ?_) (fun c_11 => ?_)
  · skip
    refine lv_iconst (v := 0) hx hb d_M_isImage_46 (by decide) ?_
    exact W.zret (v := 0) hx hb hr (by decide) (fun t ht hW => ⟨congrArg (fun z => Outcome.returned (some (Value.int z))) (by unfold j_M_isImage; rw [if_pos c_11]), ht⟩) (fun q h => by cases h) d_M_isImage_47
  · skip
    refine lv_iload_n hx hb d_M_isImage_14 rfl (lv_at hl 1 rfl) ?_
    refine lv_i2l hx hb d_M_isImage_15 rfl ?_
    refine lv_ldc2 (v := (-40)) hx hb hown (ht_ hts mw493) d_M_isImage_16 ?_
    refine lv_ldc2 (v := 40) hx hb hown (ht_ hts mw494) d_M_isImage_19 ?_
    refine rd_c (va_runS (As := [.long b.toInt64, .long (-40), .long 40]) (rest := []) ⟨hx, hb, hml, hown, hts⟩ (c_M_in l b.toInt64 (-40) 40) (cwS 3 hts (gi_S mw475 mw473 mw474 mw33) rfl rfl rfl (by decide +kernel) ⟨Nat.le_of_ble_eq_true rfl, Nat.le_of_ble_eq_true rfl⟩) st_S rfl rfl hl.1 rfl (lv_room (Nat.le_of_ble_eq_true rfl)) d_M_isImage_22 ⟨Nat.le_of_ble_eq_true rfl, Nat.le_of_ble_eq_true rfl⟩) ?_
    refine lv_if_eq (tgt := 46) hx hb d_M_isImage_25 (by decide) (fun c_25 => ?_) (fun c_25 => ?_)
    · skip
      refine lv_iconst (v := 0) hx hb d_M_isImage_46 (by decide) ?_
      exact W.zret (v := 0) hx hb hr (by decide) (fun t ht hW => ⟨congrArg (fun z => Outcome.returned (some (Value.int z))) (by unfold j_M_isImage; rw [if_neg c_11, if_pos c_25]), ht⟩) (fun q h => by cases h) d_M_isImage_47
    · skip
      refine lv_iload_n hx hb d_M_isImage_28 rfl (lv_at hl 2 rfl) ?_
      refine lv_i2l hx hb d_M_isImage_29 rfl ?_
      refine lv_ldc2 (v := (-40)) hx hb hown (ht_ hts mw493) d_M_isImage_30 ?_
      refine lv_ldc2 (v := 40) hx hb hown (ht_ hts mw494) d_M_isImage_33 ?_
      refine rd_c (va_runS (As := [.long c9.toInt64, .long (-40), .long 40]) (rest := []) ⟨hx, hb, hml, hown, hts⟩ (c_M_in l c9.toInt64 (-40) 40) (cwS 3 hts (gi_S mw475 mw473 mw474 mw33) rfl rfl rfl (by decide +kernel) ⟨Nat.le_of_ble_eq_true rfl, Nat.le_of_ble_eq_true rfl⟩) st_S rfl rfl hl.1 rfl (lv_room (Nat.le_of_ble_eq_true rfl)) d_M_isImage_36 ⟨Nat.le_of_ble_eq_true rfl, Nat.le_of_ble_eq_true rfl⟩) ?_
      refine lv_if_eq (tgt := 46) hx hb d_M_isImage_39 (by decide) (fun c_39 => ?_) (fun c_39 => ?_)
      · skip
        refine lv_iconst (v := 0) hx hb d_M_isImage_46 (by decide) ?_
        exact W.zret (v := 0) hx hb hr (by decide) (fun t ht hW => ⟨congrArg (fun z => Outcome.returned (some (Value.int z))) (by unfold j_M_isImage; rw [if_neg c_11, if_neg c_25, if_pos c_39]), ht⟩) (fun q h => by cases h) d_M_isImage_47
      · skip
        refine lv_iconst (v := 1) hx hb d_M_isImage_42 (by decide) ?_
        refine lv_goto (tgt := 47) hx hb d_M_isImage_43 (by decide) ?_
        exact W.zret (v := 1) hx hb hr (by decide) (fun t ht hW => ⟨congrArg (fun z => Outcome.returned (some (Value.int z))) (by unfold j_M_isImage; rw [if_neg c_11, if_neg c_25, if_neg c_39]), ht⟩) (fun q h => by cases h) d_M_isImage_47

def j_M_square (zs : Nat → Int32) (sc : Nat → Int32) (li : Nat → Int32) (ax : Nat) (n : Int32) : Int64 := if (n - n / 2 * 2) = 0 then (((n.toInt64 * ((zs ax).toInt64)) + ((sc ax).toInt64)) - ((li ax).toInt64)) * (((n.toInt64 * ((zs ax).toInt64)) + ((sc ax).toInt64)) - ((li ax).toInt64)) else (((n.toInt64 * ((zs ax).toInt64)) + (((zs ax) - (sc ax)).toInt64)) - ((li ax).toInt64)) * (((n.toInt64 * ((zs ax).toInt64)) + (((zs ax) - (sc ax)).toInt64)) - ((li ax).toInt64))
set_option maxHeartbeats 4000000 in
set_option maxRecDepth 100000 in
theorem c_M_square (l : Launch) (dC : Nat → ClassId) (dI : Nat → Nat → Nat) (cI cL : ClassId) (aM : Nat) (th0 : Int32) (kn : Int32) (mS : Nat) (mC : Nat) (mL : Nat) (mK : Nat) (mQ : Nat) (mT : Nat) (mD : Nat) (mA : Nat) (mB : Nat) (mG : Nat) (zs : Nat → Int32) (sc : Nat → Int32) (li : Nat → Int32) (ax : Nat) (n : Int32) (hax : ax < 3) : Met l y_M_square w_M_square ({ frames := 0, cells := 0, slots := 0, locals := 0 }) (rd_P (dC, dI) cI cL [(aM, .inr (3, [.int th0, .ref mS, .ref mC, .ref mL, .ref mK, .int kn, .ref mQ, .ref mT, .ref mD, .ref mA, .ref mB, .ref mG])), (mS, .inl (cI, 3, .inl zs)), (mC, .inl (cI, 3, .inl sc)), (mL, .inl (cI, 3, .inl li))] [.ref aM, .int (nI ax), .int n]) (k2_QcV (.long (j_M_square zs sc li ax n))) 0 0 (fun _ => False) := by
  refine Met.ofW (cc := b_M_square) (maxL := 7) (ret := (some .long)) (by decide) rfl ?_
  intro p e s m args below meth c s₁ B hml hv
  obtain ⟨rfl, hP, hM⟩ := hv
  have hx := B.exec
  have hb := B.bytes
  have hr := B.returns
  have hts := atoms_spec (ws := w_M_square) B.pre
  have hown : s.vm.findClass "RoomEchoesModel" = some m.cls := findClass_of_methodNamed B.named
  have hlocks := B.notSynchronized
  have hK := hM.1
  have hl := lv_entry ([.ref aM, .int (nI ax), .int n]) (n := 7) (Nat.le_of_ble_eq_true rfl)
  rw [lg_entry_eq]
  generalize (lg_sl ([.ref aM, .int (nI ax), .int n]) ++ List.replicate (7 - (lg_sl ([.ref aM, .int (nI ax), .int n])).length) Slot.unset).toArray = ls at hl ⊢
  have hl : lv_has ls 7 [(0, .ref aM), (1, .int (nI ax)), (2, .int n)] := hl
  refine lv_iload_n hx hb d_M_square_0 rfl (lv_at hl 2 rfl) ?_
  refine lv_i2l hx hb d_M_square_1 rfl ?_
  refine lv_aload_n hx hb d_M_square_2 rfl (lv_at hl 0 rfl) ?_
  refine va_get (D := (dC, dI)) (ci := 3) (v := .ref mS) (C := "RoomEchoesModel") (T := FT_M) (N := 12) hx hb hts (hi_ in_M) hown hK hP 0 rfl rfl 1 (by decide) (ht_ hts mw425) (fun _ h9 => h9) rfl d_M_square_3 ?_
  refine lv_iload_n hx hb d_M_square_6 rfl (lv_at hl 1 rfl) ?_
  refine va_iald hx hb hK hP 1 0 rfl rfl (vp_in_nI (by omega) (by omega)) d_M_square_7 ?_
  refine tp_i (zs ax) (by rw [nI_clamp (by omega)]) ?_
  refine lv_i2l hx hb d_M_square_8 rfl ?_
  refine lv_lmul hx hb d_M_square_9 ?_
  refine lv_iload_n hx hb d_M_square_10 rfl (lv_at hl 2 rfl) ?_
  refine lv_iconst (v := 2) hx hb d_M_square_11 (by decide) ?_
  refine lv_irem hx hb d_M_square_12 (by decide) ?_
  refine lv_if_ne (tgt := 25) hx hb d_M_square_13 (by decide) (fun c_13 => ?_) (fun c_13 => ?_)
  · skip
    refine lv_aload_n hx hb d_M_square_25 rfl (lv_at hl 0 rfl) ?_
    refine va_get (D := (dC, dI)) (ci := 3) (v := .ref mS) (C := "RoomEchoesModel") (T := FT_M) (N := 12) hx hb hts (hi_ in_M) hown hK hP 0 rfl rfl 1 (by decide) (ht_ hts mw425) (fun _ h9 => h9) rfl d_M_square_26 ?_
    refine lv_iload_n hx hb d_M_square_29 rfl (lv_at hl 1 rfl) ?_
    refine va_iald hx hb hK hP 1 0 rfl rfl (vp_in_nI (by omega) (by omega)) d_M_square_30 ?_
    refine tp_i (zs ax) (by rw [nI_clamp (by omega)]) ?_
    refine lv_aload_n hx hb d_M_square_31 rfl (lv_at hl 0 rfl) ?_
    refine va_get (D := (dC, dI)) (ci := 3) (v := .ref mC) (C := "RoomEchoesModel") (T := FT_M) (N := 12) hx hb hts (hi_ in_M) hown hK hP 0 rfl rfl 2 (by decide) (ht_ hts mw426) (fun _ h9 => h9) rfl d_M_square_32 ?_
    refine lv_iload_n hx hb d_M_square_35 rfl (lv_at hl 1 rfl) ?_
    refine va_iald hx hb hK hP 2 0 rfl rfl (vp_in_nI (by omega) (by omega)) d_M_square_36 ?_
    refine tp_i (sc ax) (by rw [nI_clamp (by omega)]) ?_
    refine lv_isub hx hb d_M_square_37 ?_
    refine lv_i2l hx hb d_M_square_38 rfl ?_
    refine lv_ladd hx hb d_M_square_39 ?_
    refine lv_lstore_n (lv' := [(3, .long ((n.toInt64 * ((zs ax).toInt64)) + (((zs ax) - (sc ax)).toInt64))), (0, .ref aM), (1, .int (nI ax)), (2, .int n)]) hx hb d_M_square_40 rfl hl (by decide) rfl (fun ls hl => ?_)
    refine lv_lload_n hx hb d_M_square_41 rfl (lv_at hl 0 rfl) ?_
    refine lv_aload_n hx hb d_M_square_42 rfl (lv_at hl 1 rfl) ?_
    refine va_get (D := (dC, dI)) (ci := 3) (v := .ref mL) (C := "RoomEchoesModel") (T := FT_M) (N := 12) hx hb hts (hi_ in_M) hown hK hP 0 rfl rfl 3 (by decide) (ht_ hts mw427) (fun _ h9 => h9) rfl d_M_square_43 ?_
    refine lv_iload_n hx hb d_M_square_46 rfl (lv_at hl 2 rfl) ?_
    refine va_iald hx hb hK hP 3 0 rfl rfl (vp_in_nI (by omega) (by omega)) d_M_square_47 ?_
    refine tp_i (li ax) (by rw [nI_clamp (by omega)]) ?_
    refine lv_i2l hx hb d_M_square_48 rfl ?_
    refine lv_lsub hx hb d_M_square_49 ?_
    refine lv_lstore (lv' := [(5, .long (((n.toInt64 * ((zs ax).toInt64)) + (((zs ax) - (sc ax)).toInt64)) - ((li ax).toInt64))), (3, .long ((n.toInt64 * ((zs ax).toInt64)) + (((zs ax) - (sc ax)).toInt64))), (0, .ref aM), (1, .int (nI ax)), (2, .int n)]) hx hb d_M_square_50 hl (by decide) rfl (fun ls hl => ?_)
    refine lv_lload hx hb d_M_square_52 (lv_at hl 0 rfl) ?_
    refine lv_lload hx hb d_M_square_54 (lv_at hl 0 rfl) ?_
    refine lv_lmul hx hb d_M_square_56 ?_
    exact W.lret (v := (((n.toInt64 * ((zs ax).toInt64)) + (((zs ax) - (sc ax)).toInt64)) - ((li ax).toInt64)) * (((n.toInt64 * ((zs ax).toInt64)) + (((zs ax) - (sc ax)).toInt64)) - ((li ax).toInt64))) hx hb hr (fun t ht hW => ⟨congrArg (fun z => Outcome.returned (some (Value.long z))) (by unfold j_M_square; rw [if_neg c_13]), ht⟩) (fun q h => by cases h) d_M_square_57
  · skip
    refine lv_aload_n hx hb d_M_square_16 rfl (lv_at hl 0 rfl) ?_
    refine va_get (D := (dC, dI)) (ci := 3) (v := .ref mC) (C := "RoomEchoesModel") (T := FT_M) (N := 12) hx hb hts (hi_ in_M) hown hK hP 0 rfl rfl 2 (by decide) (ht_ hts mw426) (fun _ h9 => h9) rfl d_M_square_17 ?_
    refine lv_iload_n hx hb d_M_square_20 rfl (lv_at hl 1 rfl) ?_
    refine va_iald hx hb hK hP 2 0 rfl rfl (vp_in_nI (by omega) (by omega)) d_M_square_21 ?_
    refine tp_i (sc ax) (by rw [nI_clamp (by omega)]) ?_
    refine lv_goto (tgt := 38) hx hb d_M_square_22 (by decide) ?_
    refine lv_i2l hx hb d_M_square_38 rfl ?_
    refine lv_ladd hx hb d_M_square_39 ?_
    refine lv_lstore_n (lv' := [(3, .long ((n.toInt64 * ((zs ax).toInt64)) + ((sc ax).toInt64))), (0, .ref aM), (1, .int (nI ax)), (2, .int n)]) hx hb d_M_square_40 rfl hl (by decide) rfl (fun ls hl => ?_)
    refine lv_lload_n hx hb d_M_square_41 rfl (lv_at hl 0 rfl) ?_
    refine lv_aload_n hx hb d_M_square_42 rfl (lv_at hl 1 rfl) ?_
    refine va_get (D := (dC, dI)) (ci := 3) (v := .ref mL) (C := "RoomEchoesModel") (T := FT_M) (N := 12) hx hb hts (hi_ in_M) hown hK hP 0 rfl rfl 3 (by decide) (ht_ hts mw427) (fun _ h9 => h9) rfl d_M_square_43 ?_
    refine lv_iload_n hx hb d_M_square_46 rfl (lv_at hl 2 rfl) ?_
    refine va_iald hx hb hK hP 3 0 rfl rfl (vp_in_nI (by omega) (by omega)) d_M_square_47 ?_
    refine tp_i (li ax) (by rw [nI_clamp (by omega)]) ?_
    refine lv_i2l hx hb d_M_square_48 rfl ?_
    refine lv_lsub hx hb d_M_square_49 ?_
    refine lv_lstore (lv' := [(5, .long (((n.toInt64 * ((zs ax).toInt64)) + ((sc ax).toInt64)) - ((li ax).toInt64))), (3, .long ((n.toInt64 * ((zs ax).toInt64)) + ((sc ax).toInt64))), (0, .ref aM), (1, .int (nI ax)), (2, .int n)]) hx hb d_M_square_50 hl (by decide) rfl (fun ls hl => ?_)
    refine lv_lload hx hb d_M_square_52 (lv_at hl 0 rfl) ?_
    refine lv_lload hx hb d_M_square_54 (lv_at hl 0 rfl) ?_
    refine lv_lmul hx hb d_M_square_56 ?_
    exact W.lret (v := (((n.toInt64 * ((zs ax).toInt64)) + ((sc ax).toInt64)) - ((li ax).toInt64)) * (((n.toInt64 * ((zs ax).toInt64)) + ((sc ax).toInt64)) - ((li ax).toInt64))) hx hb hr (fun t ht hW => ⟨congrArg (fun z => Outcome.returned (some (Value.long z))) (by unfold j_M_square; rw [if_pos c_13]), ht⟩) (fun q h => by cases h) d_M_square_57

def j_M_distance (zs : Nat → Int32) (sc : Nat → Int32) (li : Nat → Int32) (a : Int32) (b : Int32) (c9 : Int32) : Int64 := ((j_M_square zs sc li 0 a) + (j_M_square zs sc li 1 b)) + (j_M_square zs sc li 2 c9)
set_option maxHeartbeats 4000000 in
set_option maxRecDepth 100000 in
theorem c_M_distance (l : Launch) (dC : Nat → ClassId) (dI : Nat → Nat → Nat) (cI cL : ClassId) (aM : Nat) (th0 : Int32) (kn : Int32) (mS : Nat) (mC : Nat) (mL : Nat) (mK : Nat) (mQ : Nat) (mT : Nat) (mD : Nat) (mA : Nat) (mB : Nat) (mG : Nat) (zs : Nat → Int32) (sc : Nat → Int32) (li : Nat → Int32) (a : Int32) (b : Int32) (c9 : Int32) : Met l y_M_distance w_M_distance ({ frames := 1, cells := 0, slots := 0, locals := 26 }) (rd_P (dC, dI) cI cL [(aM, .inr (3, [.int th0, .ref mS, .ref mC, .ref mL, .ref mK, .int kn, .ref mQ, .ref mT, .ref mD, .ref mA, .ref mB, .ref mG])), (mS, .inl (cI, 3, .inl zs)), (mC, .inl (cI, 3, .inl sc)), (mL, .inl (cI, 3, .inl li))] [.ref aM, .int a, .int b, .int c9]) (k2_QcV (.long (j_M_distance zs sc li a b c9))) 0 0 (fun _ => False) := by
  refine Met.ofW (cc := b_M_distance) (maxL := 4) (ret := (some .long)) (by decide) rfl ?_
  intro p e s m args below meth c s₁ B hml hv
  obtain ⟨rfl, hP, hM⟩ := hv
  have hx := B.exec
  have hb := B.bytes
  have hr := B.returns
  have hts := atoms_spec (ws := w_M_distance) B.pre
  have hown : s.vm.findClass "RoomEchoesModel" = some m.cls := findClass_of_methodNamed B.named
  have hlocks := B.notSynchronized
  have hK := hM.1
  have hl := lv_entry ([.ref aM, .int a, .int b, .int c9]) (n := 4) (Nat.le_of_ble_eq_true rfl)
  rw [lg_entry_eq]
  generalize (lg_sl ([.ref aM, .int a, .int b, .int c9]) ++ List.replicate (4 - (lg_sl ([.ref aM, .int a, .int b, .int c9])).length) Slot.unset).toArray = ls at hl ⊢
  have hl : lv_has ls 4 [(0, .ref aM), (1, .int a), (2, .int b), (3, .int c9)] := hl
  refine lv_aload_n hx hb d_M_distance_0 rfl (lv_at hl 0 rfl) ?_
  refine lv_iconst (v := 0) hx hb d_M_distance_1 (by decide) ?_
  refine lv_iload_n hx hb d_M_distance_2 rfl (lv_at hl 1 rfl) ?_
  have hPc := hP.sub (ws' := [(aM, .inr (3, [.int th0, .ref mS, .ref mC, .ref mL, .ref mK, .int kn, .ref mQ, .ref mT, .ref mD, .ref mA, .ref mB, .ref mG])), (mS, .inl (cI, 3, .inl zs)), (mC, .inl (cI, 3, .inl sc)), (mL, .inl (cI, 3, .inl li))]) [0, 1, 2, 3] rfl
  refine rd_c (va_runV (As := [.int 0, .int a]) (rest := []) ⟨hx, hb, hml, hown, hts⟩ (c_M_square l dC dI cI cL aM th0 kn mS mC mL mK mQ mT mD mA mB mG zs sc li 0 a (by decide)) (cwV 2 hts (gi_V mw507 mw504 mw506 mw17 mw33) rfl rfl rfl (by decide +kernel) ⟨Nat.le_of_ble_eq_true rfl, Nat.le_of_ble_eq_true rfl⟩) (rd_V hM hPc rfl rfl rfl) rfl rfl hl.1 rfl (lv_room (Nat.le_of_ble_eq_true rfl)) d_M_distance_3 ⟨Nat.le_of_ble_eq_true rfl, Nat.le_of_ble_eq_true rfl⟩) ?_
  refine lv_aload_n hx hb d_M_distance_6 rfl (lv_at hl 0 rfl) ?_
  refine lv_iconst (v := 1) hx hb d_M_distance_7 (by decide) ?_
  refine lv_iload_n hx hb d_M_distance_8 rfl (lv_at hl 2 rfl) ?_
  have hPc := hP.sub (ws' := [(aM, .inr (3, [.int th0, .ref mS, .ref mC, .ref mL, .ref mK, .int kn, .ref mQ, .ref mT, .ref mD, .ref mA, .ref mB, .ref mG])), (mS, .inl (cI, 3, .inl zs)), (mC, .inl (cI, 3, .inl sc)), (mL, .inl (cI, 3, .inl li))]) [0, 1, 2, 3] rfl
  refine rd_c (va_runV (As := [.int 1, .int b]) (rest := [.long (j_M_square zs sc li 0 a)]) ⟨hx, hb, hml, hown, hts⟩ (c_M_square l dC dI cI cL aM th0 kn mS mC mL mK mQ mT mD mA mB mG zs sc li 1 b (by decide)) (cwV 2 hts (gi_V mw507 mw504 mw506 mw17 mw33) rfl rfl rfl (by decide +kernel) ⟨Nat.le_of_ble_eq_true rfl, Nat.le_of_ble_eq_true rfl⟩) (rd_V hM hPc rfl rfl rfl) rfl rfl hl.1 rfl (lv_room (Nat.le_of_ble_eq_true rfl)) d_M_distance_9 ⟨Nat.le_of_ble_eq_true rfl, Nat.le_of_ble_eq_true rfl⟩) ?_
  refine lv_ladd hx hb d_M_distance_12 ?_
  refine lv_aload_n hx hb d_M_distance_13 rfl (lv_at hl 0 rfl) ?_
  refine lv_iconst (v := 2) hx hb d_M_distance_14 (by decide) ?_
  refine lv_iload_n hx hb d_M_distance_15 rfl (lv_at hl 3 rfl) ?_
  have hPc := hP.sub (ws' := [(aM, .inr (3, [.int th0, .ref mS, .ref mC, .ref mL, .ref mK, .int kn, .ref mQ, .ref mT, .ref mD, .ref mA, .ref mB, .ref mG])), (mS, .inl (cI, 3, .inl zs)), (mC, .inl (cI, 3, .inl sc)), (mL, .inl (cI, 3, .inl li))]) [0, 1, 2, 3] rfl
  refine rd_c (va_runV (As := [.int 2, .int c9]) (rest := [.long ((j_M_square zs sc li 0 a) + (j_M_square zs sc li 1 b))]) ⟨hx, hb, hml, hown, hts⟩ (c_M_square l dC dI cI cL aM th0 kn mS mC mL mK mQ mT mD mA mB mG zs sc li 2 c9 (by decide)) (cwV 2 hts (gi_V mw507 mw504 mw506 mw17 mw33) rfl rfl rfl (by decide +kernel) ⟨Nat.le_of_ble_eq_true rfl, Nat.le_of_ble_eq_true rfl⟩) (rd_V hM hPc rfl rfl rfl) rfl rfl hl.1 rfl (lv_room (Nat.le_of_ble_eq_true rfl)) d_M_distance_16 ⟨Nat.le_of_ble_eq_true rfl, Nat.le_of_ble_eq_true rfl⟩) ?_
  refine lv_ladd hx hb d_M_distance_19 ?_
  exact W.lret (v := ((j_M_square zs sc li 0 a) + (j_M_square zs sc li 1 b)) + (j_M_square zs sc li 2 c9)) hx hb hr (fun t ht hW => ⟨congrArg (fun z => Outcome.returned (some (Value.long z))) (by unfold j_M_distance; rfl), ht⟩) (fun q h => by cases h) d_M_distance_20

set_option maxHeartbeats 4000000 in
set_option maxRecDepth 100000 in
theorem c_M_kept (l : Launch) (dC : Nat → ClassId) (dI : Nat → Nat → Nat) (cI cL : ClassId) (aM : Nat) (th0 : Int32) (kn : Int32) (mS : Nat) (mC : Nat) (mL : Nat) (mK : Nat) (mQ : Nat) (mT : Nat) (mD : Nat) (mA : Nat) (mB : Nat) (mG : Nat) (kp : Nat → Int32) (g : Int64) (wl : Nat) (h : Int32) (hw : wl < 6) : Met l y_M_kept w_M_kept ({ frames := 0, cells := 0, slots := 0, locals := 0 }) (rd_P (dC, dI) cI cL [(aM, .inr (3, [.int th0, .ref mS, .ref mC, .ref mL, .ref mK, .int kn, .ref mQ, .ref mT, .ref mD, .ref mA, .ref mB, .ref mG])), (mK, .inl (cI, 6, .inl kp))] [.ref aM, .long g, .int (nI wl), .int h]) (k2_QcV (.long (j_it (kp wl) h.toNatClampNeg g))) 0 0 (fun _ => False) := by
  refine Met.ofW (cc := b_M_kept) (maxL := 8) (ret := (some .long)) (by decide) rfl ?_
  intro p e s m args below meth c s₁ B hml hv
  obtain ⟨rfl, hP, hM⟩ := hv
  have hx := B.exec
  have hb := B.bytes
  have hr := B.returns
  have hts := atoms_spec (ws := w_M_kept) B.pre
  have hown : s.vm.findClass "RoomEchoesModel" = some m.cls := findClass_of_methodNamed B.named
  have hlocks := B.notSynchronized
  have hK := hM.1
  have hl := lv_entry ([.ref aM, .long g, .int (nI wl), .int h]) (n := 8) (Nat.le_of_ble_eq_true rfl)
  rw [lg_entry_eq]
  generalize (lg_sl ([.ref aM, .long g, .int (nI wl), .int h]) ++ List.replicate (8 - (lg_sl ([.ref aM, .long g, .int (nI wl), .int h])).length) Slot.unset).toArray = ls at hl ⊢
  have hl : lv_has ls 8 [(0, .ref aM), (1, .long g), (3, .int (nI wl)), (4, .int h)] := hl
  refine lv_lload_n hx hb d_M_kept_0 rfl (lv_at hl 1 rfl) ?_
  refine lv_lstore (lv' := [(5, .long g), (0, .ref aM), (1, .long g), (3, .int (nI wl)), (4, .int h)]) hx hb d_M_kept_1 hl (by decide) rfl (fun ls hl => ?_)
  refine lv_iconst (v := 0) hx hb d_M_kept_3 (by decide) ?_
  refine lv_istore (lv' := [(7, .int 0), (5, .long g), (0, .ref aM), (1, .long g), (3, .int (nI wl)), (4, .int h)]) hx hb d_M_kept_4 hl (by decide) rfl (fun ls hl => ?_)
  have hB := nu_lt31 h
  have lp : ∀ (n9 : Nat) (i : Nat) (y : Int64), h.toNatClampNeg < i + n9 → i ≤ h.toNatClampNeg → j_it (kp wl) (h.toNatClampNeg - i) y = j_it (kp wl) h.toNatClampNeg g → ∀ (ls : Array Slot), lv_has ls 8 [(7, .int (nI i)), (5, .long y), (0, .ref aM), (1, .long g), (3, .int (nI wl)), (4, .int h)] → W p l e (headSpec w_M_kept ({ frames := 0, cells := 0, slots := 0, locals := 0 })).room s m ([.ref aM, .long g, .int (nI wl), .int h] : List Value).toArray below meth c s.heap [] 0 0 (MQ below (k2_QcV (.long (j_it (kp wl) h.toNatClampNeg g))) ([.ref aM, .long g, .int (nI wl), .int h] : List Value).toArray s 0 0 (fun _ => False)) (F0 m 6 ls []) := by
    intro n9
    induction n9 with
    | zero => intro i y hn hi hj ls hl; omega
    | succ n9 ih =>
      intro i y hn hi hj ls hl
      refine lv_iload hx hb d_M_kept_6 (lv_at hl 0 rfl) ?_
      refine lv_iload hx hb d_M_kept_8 (lv_at hl 5 rfl) ?_
      refine lv_icmp_ge (tgt := 35) hx hb d_M_kept_10 (by decide) (fun c_10 => ?_) (fun c_10 => ?_)
      · skip
        refine lv_lload hx hb d_M_kept_35 (lv_at hl 1 rfl) ?_
        exact W.lret (v := y) hx hb hr (fun t ht hW => ⟨congrArg (fun z => Outcome.returned (some (Value.long z))) (by rw [← hj, show h.toNatClampNeg - i = 0 by have := nu_end (by omega) c_10; omega]; rfl), ht⟩) (fun q h => by cases h) d_M_kept_37
      · skip
        refine lv_lload hx hb d_M_kept_13 (lv_at hl 1 rfl) ?_
        refine lv_aload_n hx hb d_M_kept_15 rfl (lv_at hl 2 rfl) ?_
        refine va_get (D := (dC, dI)) (ci := 3) (v := .ref mK) (C := "RoomEchoesModel") (T := FT_M) (N := 12) hx hb hts (hi_ in_M) hown hK hP 0 rfl rfl 4 (by decide) (ht_ hts mw428) (fun _ h9 => h9) rfl d_M_kept_16 ?_
        refine lv_iload_n hx hb d_M_kept_19 rfl (lv_at hl 4 rfl) ?_
        refine va_iald hx hb hK hP 1 0 rfl rfl (vp_in_nI (by omega) (by omega)) d_M_kept_20 ?_
        refine tp_i (kp wl) (by rw [nI_clamp (by omega)]) ?_
        refine lv_i2l hx hb d_M_kept_21 rfl ?_
        refine lv_lmul hx hb d_M_kept_22 ?_
        refine lv_ldc2 (v := 1000) hx hb hown (ht_ hts mw485) d_M_kept_23 ?_
        refine lv_ldiv hx hb d_M_kept_26 (by decide) ?_
        refine lv_lstore (lv' := [(5, .long ((y * ((kp wl).toInt64)) / 1000)), (7, .int (nI i)), (0, .ref aM), (1, .long g), (3, .int (nI wl)), (4, .int h)]) hx hb d_M_kept_27 hl (by decide) rfl (fun ls hl => ?_)
        refine lv_iinc (v := nI (i + 1)) (lv' := [(7, .int (nI (i + 1))), (5, .long ((y * ((kp wl).toInt64)) / 1000)), (0, .ref aM), (1, .long g), (3, .int (nI wl)), (4, .int h)]) hx hb d_M_kept_29 hl (k := 1) rfl (nI_succ _).symm (by decide) rfl (fun ls hl => ?_)
        refine lv_goto (tgt := 6) hx hb d_M_kept_32 (by decide) ?_
        exact ih (i + 1) _ (by omega) (nu_on (by omega) c_10) (by rw [← hj, show h.toNatClampNeg - i = h.toNatClampNeg - (i + 1) + 1 by have := nu_on (by omega) c_10; omega]; rfl) ls (lv_sub hl [0, 1, 2, 3, 4, 5] rfl)
  exact lp (h.toNatClampNeg + 1) 0 g (by omega) (Nat.zero_le _) rfl ls (lv_sub hl [0, 1, 2, 3, 4, 5] rfl)

def j_M_strength (kp : Nat → Int32) (a : Int32) (b : Int32) (c9 : Int32) : Int64 := j_it (kp 5) (j_M_hitsHigh c9).toNatClampNeg (j_it (kp 4) (j_M_hitsLow c9).toNatClampNeg (j_it (kp 3) (j_M_hitsHigh b).toNatClampNeg (j_it (kp 2) (j_M_hitsLow b).toNatClampNeg (j_it (kp 1) (j_M_hitsHigh a).toNatClampNeg (j_it (kp 0) (j_M_hitsLow a).toNatClampNeg 1000000000)))))
set_option maxHeartbeats 4000000 in
set_option maxRecDepth 100000 in
theorem c_M_strength (l : Launch) (dC : Nat → ClassId) (dI : Nat → Nat → Nat) (cI cL : ClassId) (aM : Nat) (th0 : Int32) (kn : Int32) (mS : Nat) (mC : Nat) (mL : Nat) (mK : Nat) (mQ : Nat) (mT : Nat) (mD : Nat) (mA : Nat) (mB : Nat) (mG : Nat) (kp : Nat → Int32) (a : Int32) (b : Int32) (c9 : Int32) : Met l y_M_strength w_M_strength ({ frames := 1, cells := 0, slots := 0, locals := 27 }) (rd_P (dC, dI) cI cL [(aM, .inr (3, [.int th0, .ref mS, .ref mC, .ref mL, .ref mK, .int kn, .ref mQ, .ref mT, .ref mD, .ref mA, .ref mB, .ref mG])), (mK, .inl (cI, 6, .inl kp))] [.ref aM, .int a, .int b, .int c9]) (k2_QcV (.long (j_M_strength kp a b c9))) 0 0 (fun _ => False) := by
  refine Met.ofW (cc := b_M_strength) (maxL := 6) (ret := (some .long)) (by decide) rfl ?_
  intro p e s m args below meth c s₁ B hml hv
  obtain ⟨rfl, hP, hM⟩ := hv
  have hx := B.exec
  have hb := B.bytes
  have hr := B.returns
  have hts := atoms_spec (ws := w_M_strength) B.pre
  have hown : s.vm.findClass "RoomEchoesModel" = some m.cls := findClass_of_methodNamed B.named
  have hlocks := B.notSynchronized
  have hK := hM.1
  have hl := lv_entry ([.ref aM, .int a, .int b, .int c9]) (n := 6) (Nat.le_of_ble_eq_true rfl)
  rw [lg_entry_eq]
  generalize (lg_sl ([.ref aM, .int a, .int b, .int c9]) ++ List.replicate (6 - (lg_sl ([.ref aM, .int a, .int b, .int c9])).length) Slot.unset).toArray = ls at hl ⊢
  have hl : lv_has ls 6 [(0, .ref aM), (1, .int a), (2, .int b), (3, .int c9)] := hl
  refine lv_ldc2 (v := 1000000000) hx hb hown (ht_ hts mw512) d_M_strength_0 ?_
  refine lv_lstore (lv' := [(4, .long 1000000000), (0, .ref aM), (1, .int a), (2, .int b), (3, .int c9)]) hx hb d_M_strength_3 hl (by decide) rfl (fun ls hl => ?_)
  refine lv_aload_n hx hb d_M_strength_5 rfl (lv_at hl 1 rfl) ?_
  refine lv_lload hx hb d_M_strength_6 (lv_at hl 0 rfl) ?_
  refine lv_iconst (v := 0) hx hb d_M_strength_8 (by decide) ?_
  refine lv_iload_n hx hb d_M_strength_9 rfl (lv_at hl 2 rfl) ?_
  refine rd_c (va_runS (As := [.int a]) (rest := [.int 0, .long 1000000000, .ref aM]) ⟨hx, hb, hml, hown, hts⟩ (c_M_hitsLow l a) (cwS 1 hts (gi_S mw515 mw513 mw514 mw33) rfl rfl rfl (by decide +kernel) ⟨Nat.le_of_ble_eq_true rfl, Nat.le_of_ble_eq_true rfl⟩) st_S rfl rfl hl.1 rfl (lv_room (Nat.le_of_ble_eq_true rfl)) d_M_strength_10 ⟨Nat.le_of_ble_eq_true rfl, Nat.le_of_ble_eq_true rfl⟩) ?_
  have hPc := hP.sub (ws' := [(aM, .inr (3, [.int th0, .ref mS, .ref mC, .ref mL, .ref mK, .int kn, .ref mQ, .ref mT, .ref mD, .ref mA, .ref mB, .ref mG])), (mK, .inl (cI, 6, .inl kp))]) [0, 1] rfl
  refine rd_c (va_runV (As := [.long 1000000000, .int 0, .int (j_M_hitsLow a)]) (rest := []) ⟨hx, hb, hml, hown, hts⟩ (c_M_kept l dC dI cI cL aM th0 kn mS mC mL mK mQ mT mD mA mB mG kp 1000000000 0 (j_M_hitsLow a) (by decide)) (cwV 3 hts (gi_V mw519 mw516 mw518 mw19 mw33) rfl rfl rfl (by decide +kernel) ⟨Nat.le_of_ble_eq_true rfl, Nat.le_of_ble_eq_true rfl⟩) (rd_V hM hPc rfl rfl rfl) rfl rfl hl.1 rfl (lv_room (Nat.le_of_ble_eq_true rfl)) d_M_strength_13 ⟨Nat.le_of_ble_eq_true rfl, Nat.le_of_ble_eq_true rfl⟩) ?_
  refine lv_lstore (lv' := [(4, .long (j_it (kp 0) (j_M_hitsLow a).toNatClampNeg 1000000000)), (0, .ref aM), (1, .int a), (2, .int b), (3, .int c9)]) hx hb d_M_strength_16 hl (by decide) rfl (fun ls hl => ?_)
  refine lv_aload_n hx hb d_M_strength_18 rfl (lv_at hl 1 rfl) ?_
  refine lv_lload hx hb d_M_strength_19 (lv_at hl 0 rfl) ?_
  refine lv_iconst (v := 1) hx hb d_M_strength_21 (by decide) ?_
  refine lv_iload_n hx hb d_M_strength_22 rfl (lv_at hl 2 rfl) ?_
  refine rd_c (va_runS (As := [.int a]) (rest := [.int 1, .long (j_it (kp 0) (j_M_hitsLow a).toNatClampNeg 1000000000), .ref aM]) ⟨hx, hb, hml, hown, hts⟩ (c_M_hitsHigh l a) (cwS 1 hts (gi_S mw522 mw520 mw521 mw33) rfl rfl rfl (by decide +kernel) ⟨Nat.le_of_ble_eq_true rfl, Nat.le_of_ble_eq_true rfl⟩) st_S rfl rfl hl.1 rfl (lv_room (Nat.le_of_ble_eq_true rfl)) d_M_strength_23 ⟨Nat.le_of_ble_eq_true rfl, Nat.le_of_ble_eq_true rfl⟩) ?_
  have hPc := hP.sub (ws' := [(aM, .inr (3, [.int th0, .ref mS, .ref mC, .ref mL, .ref mK, .int kn, .ref mQ, .ref mT, .ref mD, .ref mA, .ref mB, .ref mG])), (mK, .inl (cI, 6, .inl kp))]) [0, 1] rfl
  refine rd_c (va_runV (As := [.long (j_it (kp 0) (j_M_hitsLow a).toNatClampNeg 1000000000), .int 1, .int (j_M_hitsHigh a)]) (rest := []) ⟨hx, hb, hml, hown, hts⟩ (c_M_kept l dC dI cI cL aM th0 kn mS mC mL mK mQ mT mD mA mB mG kp (j_it (kp 0) (j_M_hitsLow a).toNatClampNeg 1000000000) 1 (j_M_hitsHigh a) (by decide)) (cwV 3 hts (gi_V mw519 mw516 mw518 mw19 mw33) rfl rfl rfl (by decide +kernel) ⟨Nat.le_of_ble_eq_true rfl, Nat.le_of_ble_eq_true rfl⟩) (rd_V hM hPc rfl rfl rfl) rfl rfl hl.1 rfl (lv_room (Nat.le_of_ble_eq_true rfl)) d_M_strength_26 ⟨Nat.le_of_ble_eq_true rfl, Nat.le_of_ble_eq_true rfl⟩) ?_
  refine lv_lstore (lv' := [(4, .long (j_it (kp 1) (j_M_hitsHigh a).toNatClampNeg (j_it (kp 0) (j_M_hitsLow a).toNatClampNeg 1000000000))), (0, .ref aM), (1, .int a), (2, .int b), (3, .int c9)]) hx hb d_M_strength_29 hl (by decide) rfl (fun ls hl => ?_)
  refine lv_aload_n hx hb d_M_strength_31 rfl (lv_at hl 1 rfl) ?_
  refine lv_lload hx hb d_M_strength_32 (lv_at hl 0 rfl) ?_
  refine lv_iconst (v := 2) hx hb d_M_strength_34 (by decide) ?_
  refine lv_iload_n hx hb d_M_strength_35 rfl (lv_at hl 3 rfl) ?_
  refine rd_c (va_runS (As := [.int b]) (rest := [.int 2, .long (j_it (kp 1) (j_M_hitsHigh a).toNatClampNeg (j_it (kp 0) (j_M_hitsLow a).toNatClampNeg 1000000000)), .ref aM]) ⟨hx, hb, hml, hown, hts⟩ (c_M_hitsLow l b) (cwS 1 hts (gi_S mw515 mw513 mw514 mw33) rfl rfl rfl (by decide +kernel) ⟨Nat.le_of_ble_eq_true rfl, Nat.le_of_ble_eq_true rfl⟩) st_S rfl rfl hl.1 rfl (lv_room (Nat.le_of_ble_eq_true rfl)) d_M_strength_36 ⟨Nat.le_of_ble_eq_true rfl, Nat.le_of_ble_eq_true rfl⟩) ?_
  have hPc := hP.sub (ws' := [(aM, .inr (3, [.int th0, .ref mS, .ref mC, .ref mL, .ref mK, .int kn, .ref mQ, .ref mT, .ref mD, .ref mA, .ref mB, .ref mG])), (mK, .inl (cI, 6, .inl kp))]) [0, 1] rfl
  refine rd_c (va_runV (As := [.long (j_it (kp 1) (j_M_hitsHigh a).toNatClampNeg (j_it (kp 0) (j_M_hitsLow a).toNatClampNeg 1000000000)), .int 2, .int (j_M_hitsLow b)]) (rest := []) ⟨hx, hb, hml, hown, hts⟩ (c_M_kept l dC dI cI cL aM th0 kn mS mC mL mK mQ mT mD mA mB mG kp (j_it (kp 1) (j_M_hitsHigh a).toNatClampNeg (j_it (kp 0) (j_M_hitsLow a).toNatClampNeg 1000000000)) 2 (j_M_hitsLow b) (by decide)) (cwV 3 hts (gi_V mw519 mw516 mw518 mw19 mw33) rfl rfl rfl (by decide +kernel) ⟨Nat.le_of_ble_eq_true rfl, Nat.le_of_ble_eq_true rfl⟩) (rd_V hM hPc rfl rfl rfl) rfl rfl hl.1 rfl (lv_room (Nat.le_of_ble_eq_true rfl)) d_M_strength_39 ⟨Nat.le_of_ble_eq_true rfl, Nat.le_of_ble_eq_true rfl⟩) ?_
  refine lv_lstore (lv' := [(4, .long (j_it (kp 2) (j_M_hitsLow b).toNatClampNeg (j_it (kp 1) (j_M_hitsHigh a).toNatClampNeg (j_it (kp 0) (j_M_hitsLow a).toNatClampNeg 1000000000)))), (0, .ref aM), (1, .int a), (2, .int b), (3, .int c9)]) hx hb d_M_strength_42 hl (by decide) rfl (fun ls hl => ?_)
  refine lv_aload_n hx hb d_M_strength_44 rfl (lv_at hl 1 rfl) ?_
  refine lv_lload hx hb d_M_strength_45 (lv_at hl 0 rfl) ?_
  refine lv_iconst (v := 3) hx hb d_M_strength_47 (by decide) ?_
  refine lv_iload_n hx hb d_M_strength_48 rfl (lv_at hl 3 rfl) ?_
  refine rd_c (va_runS (As := [.int b]) (rest := [.int 3, .long (j_it (kp 2) (j_M_hitsLow b).toNatClampNeg (j_it (kp 1) (j_M_hitsHigh a).toNatClampNeg (j_it (kp 0) (j_M_hitsLow a).toNatClampNeg 1000000000))), .ref aM]) ⟨hx, hb, hml, hown, hts⟩ (c_M_hitsHigh l b) (cwS 1 hts (gi_S mw522 mw520 mw521 mw33) rfl rfl rfl (by decide +kernel) ⟨Nat.le_of_ble_eq_true rfl, Nat.le_of_ble_eq_true rfl⟩) st_S rfl rfl hl.1 rfl (lv_room (Nat.le_of_ble_eq_true rfl)) d_M_strength_49 ⟨Nat.le_of_ble_eq_true rfl, Nat.le_of_ble_eq_true rfl⟩) ?_
  have hPc := hP.sub (ws' := [(aM, .inr (3, [.int th0, .ref mS, .ref mC, .ref mL, .ref mK, .int kn, .ref mQ, .ref mT, .ref mD, .ref mA, .ref mB, .ref mG])), (mK, .inl (cI, 6, .inl kp))]) [0, 1] rfl
  refine rd_c (va_runV (As := [.long (j_it (kp 2) (j_M_hitsLow b).toNatClampNeg (j_it (kp 1) (j_M_hitsHigh a).toNatClampNeg (j_it (kp 0) (j_M_hitsLow a).toNatClampNeg 1000000000))), .int 3, .int (j_M_hitsHigh b)]) (rest := []) ⟨hx, hb, hml, hown, hts⟩ (c_M_kept l dC dI cI cL aM th0 kn mS mC mL mK mQ mT mD mA mB mG kp (j_it (kp 2) (j_M_hitsLow b).toNatClampNeg (j_it (kp 1) (j_M_hitsHigh a).toNatClampNeg (j_it (kp 0) (j_M_hitsLow a).toNatClampNeg 1000000000))) 3 (j_M_hitsHigh b) (by decide)) (cwV 3 hts (gi_V mw519 mw516 mw518 mw19 mw33) rfl rfl rfl (by decide +kernel) ⟨Nat.le_of_ble_eq_true rfl, Nat.le_of_ble_eq_true rfl⟩) (rd_V hM hPc rfl rfl rfl) rfl rfl hl.1 rfl (lv_room (Nat.le_of_ble_eq_true rfl)) d_M_strength_52 ⟨Nat.le_of_ble_eq_true rfl, Nat.le_of_ble_eq_true rfl⟩) ?_
  refine lv_lstore (lv' := [(4, .long (j_it (kp 3) (j_M_hitsHigh b).toNatClampNeg (j_it (kp 2) (j_M_hitsLow b).toNatClampNeg (j_it (kp 1) (j_M_hitsHigh a).toNatClampNeg (j_it (kp 0) (j_M_hitsLow a).toNatClampNeg 1000000000))))), (0, .ref aM), (1, .int a), (2, .int b), (3, .int c9)]) hx hb d_M_strength_55 hl (by decide) rfl (fun ls hl => ?_)
  refine lv_aload_n hx hb d_M_strength_57 rfl (lv_at hl 1 rfl) ?_
  refine lv_lload hx hb d_M_strength_58 (lv_at hl 0 rfl) ?_
  refine lv_iconst (v := 4) hx hb d_M_strength_60 (by decide) ?_
  refine lv_iload_n hx hb d_M_strength_61 rfl (lv_at hl 4 rfl) ?_
  refine rd_c (va_runS (As := [.int c9]) (rest := [.int 4, .long (j_it (kp 3) (j_M_hitsHigh b).toNatClampNeg (j_it (kp 2) (j_M_hitsLow b).toNatClampNeg (j_it (kp 1) (j_M_hitsHigh a).toNatClampNeg (j_it (kp 0) (j_M_hitsLow a).toNatClampNeg 1000000000)))), .ref aM]) ⟨hx, hb, hml, hown, hts⟩ (c_M_hitsLow l c9) (cwS 1 hts (gi_S mw515 mw513 mw514 mw33) rfl rfl rfl (by decide +kernel) ⟨Nat.le_of_ble_eq_true rfl, Nat.le_of_ble_eq_true rfl⟩) st_S rfl rfl hl.1 rfl (lv_room (Nat.le_of_ble_eq_true rfl)) d_M_strength_62 ⟨Nat.le_of_ble_eq_true rfl, Nat.le_of_ble_eq_true rfl⟩) ?_
  have hPc := hP.sub (ws' := [(aM, .inr (3, [.int th0, .ref mS, .ref mC, .ref mL, .ref mK, .int kn, .ref mQ, .ref mT, .ref mD, .ref mA, .ref mB, .ref mG])), (mK, .inl (cI, 6, .inl kp))]) [0, 1] rfl
  refine rd_c (va_runV (As := [.long (j_it (kp 3) (j_M_hitsHigh b).toNatClampNeg (j_it (kp 2) (j_M_hitsLow b).toNatClampNeg (j_it (kp 1) (j_M_hitsHigh a).toNatClampNeg (j_it (kp 0) (j_M_hitsLow a).toNatClampNeg 1000000000)))), .int 4, .int (j_M_hitsLow c9)]) (rest := []) ⟨hx, hb, hml, hown, hts⟩ (c_M_kept l dC dI cI cL aM th0 kn mS mC mL mK mQ mT mD mA mB mG kp (j_it (kp 3) (j_M_hitsHigh b).toNatClampNeg (j_it (kp 2) (j_M_hitsLow b).toNatClampNeg (j_it (kp 1) (j_M_hitsHigh a).toNatClampNeg (j_it (kp 0) (j_M_hitsLow a).toNatClampNeg 1000000000)))) 4 (j_M_hitsLow c9) (by decide)) (cwV 3 hts (gi_V mw519 mw516 mw518 mw19 mw33) rfl rfl rfl (by decide +kernel) ⟨Nat.le_of_ble_eq_true rfl, Nat.le_of_ble_eq_true rfl⟩) (rd_V hM hPc rfl rfl rfl) rfl rfl hl.1 rfl (lv_room (Nat.le_of_ble_eq_true rfl)) d_M_strength_65 ⟨Nat.le_of_ble_eq_true rfl, Nat.le_of_ble_eq_true rfl⟩) ?_
  refine lv_lstore (lv' := [(4, .long (j_it (kp 4) (j_M_hitsLow c9).toNatClampNeg (j_it (kp 3) (j_M_hitsHigh b).toNatClampNeg (j_it (kp 2) (j_M_hitsLow b).toNatClampNeg (j_it (kp 1) (j_M_hitsHigh a).toNatClampNeg (j_it (kp 0) (j_M_hitsLow a).toNatClampNeg 1000000000)))))), (0, .ref aM), (1, .int a), (2, .int b), (3, .int c9)]) hx hb d_M_strength_68 hl (by decide) rfl (fun ls hl => ?_)
  refine lv_aload_n hx hb d_M_strength_70 rfl (lv_at hl 1 rfl) ?_
  refine lv_lload hx hb d_M_strength_71 (lv_at hl 0 rfl) ?_
  refine lv_iconst (v := 5) hx hb d_M_strength_73 (by decide) ?_
  refine lv_iload_n hx hb d_M_strength_74 rfl (lv_at hl 4 rfl) ?_
  refine rd_c (va_runS (As := [.int c9]) (rest := [.int 5, .long (j_it (kp 4) (j_M_hitsLow c9).toNatClampNeg (j_it (kp 3) (j_M_hitsHigh b).toNatClampNeg (j_it (kp 2) (j_M_hitsLow b).toNatClampNeg (j_it (kp 1) (j_M_hitsHigh a).toNatClampNeg (j_it (kp 0) (j_M_hitsLow a).toNatClampNeg 1000000000))))), .ref aM]) ⟨hx, hb, hml, hown, hts⟩ (c_M_hitsHigh l c9) (cwS 1 hts (gi_S mw522 mw520 mw521 mw33) rfl rfl rfl (by decide +kernel) ⟨Nat.le_of_ble_eq_true rfl, Nat.le_of_ble_eq_true rfl⟩) st_S rfl rfl hl.1 rfl (lv_room (Nat.le_of_ble_eq_true rfl)) d_M_strength_75 ⟨Nat.le_of_ble_eq_true rfl, Nat.le_of_ble_eq_true rfl⟩) ?_
  have hPc := hP.sub (ws' := [(aM, .inr (3, [.int th0, .ref mS, .ref mC, .ref mL, .ref mK, .int kn, .ref mQ, .ref mT, .ref mD, .ref mA, .ref mB, .ref mG])), (mK, .inl (cI, 6, .inl kp))]) [0, 1] rfl
  refine rd_c (va_runV (As := [.long (j_it (kp 4) (j_M_hitsLow c9).toNatClampNeg (j_it (kp 3) (j_M_hitsHigh b).toNatClampNeg (j_it (kp 2) (j_M_hitsLow b).toNatClampNeg (j_it (kp 1) (j_M_hitsHigh a).toNatClampNeg (j_it (kp 0) (j_M_hitsLow a).toNatClampNeg 1000000000))))), .int 5, .int (j_M_hitsHigh c9)]) (rest := []) ⟨hx, hb, hml, hown, hts⟩ (c_M_kept l dC dI cI cL aM th0 kn mS mC mL mK mQ mT mD mA mB mG kp (j_it (kp 4) (j_M_hitsLow c9).toNatClampNeg (j_it (kp 3) (j_M_hitsHigh b).toNatClampNeg (j_it (kp 2) (j_M_hitsLow b).toNatClampNeg (j_it (kp 1) (j_M_hitsHigh a).toNatClampNeg (j_it (kp 0) (j_M_hitsLow a).toNatClampNeg 1000000000))))) 5 (j_M_hitsHigh c9) (by decide)) (cwV 3 hts (gi_V mw519 mw516 mw518 mw19 mw33) rfl rfl rfl (by decide +kernel) ⟨Nat.le_of_ble_eq_true rfl, Nat.le_of_ble_eq_true rfl⟩) (rd_V hM hPc rfl rfl rfl) rfl rfl hl.1 rfl (lv_room (Nat.le_of_ble_eq_true rfl)) d_M_strength_78 ⟨Nat.le_of_ble_eq_true rfl, Nat.le_of_ble_eq_true rfl⟩) ?_
  exact W.lret (v := j_it (kp 5) (j_M_hitsHigh c9).toNatClampNeg (j_it (kp 4) (j_M_hitsLow c9).toNatClampNeg (j_it (kp 3) (j_M_hitsHigh b).toNatClampNeg (j_it (kp 2) (j_M_hitsLow b).toNatClampNeg (j_it (kp 1) (j_M_hitsHigh a).toNatClampNeg (j_it (kp 0) (j_M_hitsLow a).toNatClampNeg 1000000000)))))) hx hb hr (fun t ht hW => ⟨congrArg (fun z => Outcome.returned (some (Value.long z))) (by unfold j_M_strength; rfl), ht⟩) (fun q h => by cases h) d_M_strength_81

def j_M_told (zs : Nat → Int32) (sc : Nat → Int32) (li : Nat → Int32) (kp : Nat → Int32) (a : Int32) (b : Int32) (c9 : Int32) (what : Int32) : Int64 := if what = 0 then j_M_distance zs sc li a b c9 else (if what = 1 then j_M_strength kp a b c9 else (if what = 2 then (j_M_strength kp a b c9) / (1 + (j_M_distance zs sc li a b c9)) else (((j_M_hits a) + (j_M_hits b)) + (j_M_hits c9)).toInt64))
set_option maxHeartbeats 4000000 in
set_option maxRecDepth 100000 in
theorem c_M_told (l : Launch) (dC : Nat → ClassId) (dI : Nat → Nat → Nat) (cI cL : ClassId) (aM : Nat) (th0 : Int32) (kn : Int32) (mS : Nat) (mC : Nat) (mL : Nat) (mK : Nat) (mQ : Nat) (mT : Nat) (mD : Nat) (mA : Nat) (mB : Nat) (mG : Nat) (zs : Nat → Int32) (sc : Nat → Int32) (li : Nat → Int32) (kp : Nat → Int32) (a : Int32) (b : Int32) (c9 : Int32) (what : Int32) (hne : (1 : Int64) + j_M_distance zs sc li a b c9 ≠ 0) : Met l y_M_told w_M_told ({ frames := 2, cells := 0, slots := 0, locals := 52 }) (rd_P (dC, dI) cI cL [(aM, .inr (3, [.int th0, .ref mS, .ref mC, .ref mL, .ref mK, .int kn, .ref mQ, .ref mT, .ref mD, .ref mA, .ref mB, .ref mG])), (mS, .inl (cI, 3, .inl zs)), (mC, .inl (cI, 3, .inl sc)), (mL, .inl (cI, 3, .inl li)), (mK, .inl (cI, 6, .inl kp))] [.ref aM, .int a, .int b, .int c9, .int what]) (k2_QcV (.long (j_M_told zs sc li kp a b c9 what))) 0 0 (fun _ => False) := by
  refine Met.ofW (cc := b_M_told) (maxL := 5) (ret := (some .long)) (by decide) rfl ?_
  intro p e s m args below meth c s₁ B hml hv
  obtain ⟨rfl, hP, hM⟩ := hv
  have hx := B.exec
  have hb := B.bytes
  have hr := B.returns
  have hts := atoms_spec (ws := w_M_told) B.pre
  have hown : s.vm.findClass "RoomEchoesModel" = some m.cls := findClass_of_methodNamed B.named
  have hlocks := B.notSynchronized
  have hK := hM.1
  have hl := lv_entry ([.ref aM, .int a, .int b, .int c9, .int what]) (n := 5) (Nat.le_of_ble_eq_true rfl)
  rw [lg_entry_eq]
  generalize (lg_sl ([.ref aM, .int a, .int b, .int c9, .int what]) ++ List.replicate (5 - (lg_sl ([.ref aM, .int a, .int b, .int c9, .int what])).length) Slot.unset).toArray = ls at hl ⊢
  have hl : lv_has ls 5 [(0, .ref aM), (1, .int a), (2, .int b), (3, .int c9), (4, .int what)] := hl
  refine lv_iload hx hb d_M_told_0 (lv_at hl 4 rfl) ?_
  by_cases c_2_0 : what = 0
  · refine lv_tableIn (tgt := 28) hx hb d_M_told_2 (by rw [c_2_0]; decide) (by rw [c_2_0]; decide) (by rw [c_2_0]; rfl) (by decide) ?_
    refine lv_aload_n hx hb d_M_told_28 rfl (lv_at hl 0 rfl) ?_
    refine lv_iload_n hx hb d_M_told_29 rfl (lv_at hl 1 rfl) ?_
    refine lv_iload_n hx hb d_M_told_30 rfl (lv_at hl 2 rfl) ?_
    refine lv_iload_n hx hb d_M_told_31 rfl (lv_at hl 3 rfl) ?_
    have hPc := hP.sub (ws' := [(aM, .inr (3, [.int th0, .ref mS, .ref mC, .ref mL, .ref mK, .int kn, .ref mQ, .ref mT, .ref mD, .ref mA, .ref mB, .ref mG])), (mS, .inl (cI, 3, .inl zs)), (mC, .inl (cI, 3, .inl sc)), (mL, .inl (cI, 3, .inl li))]) [0, 1, 2, 3] rfl
    refine rd_c (va_runV (As := [.int a, .int b, .int c9]) (rest := []) ⟨hx, hb, hml, hown, hts⟩ (c_M_distance l dC dI cI cL aM th0 kn mS mC mL mK mQ mT mD mA mB mG zs sc li a b c9) (cwV 3 hts (gi_V mw503 mw500 mw502 mw16 mw33) rfl rfl rfl (by decide +kernel) ⟨Nat.le_of_ble_eq_true rfl, Nat.le_of_ble_eq_true rfl⟩) (rd_V hM hPc rfl rfl rfl) rfl rfl hl.1 rfl (lv_room (Nat.le_of_ble_eq_true rfl)) d_M_told_32 ⟨Nat.le_of_ble_eq_true rfl, Nat.le_of_ble_eq_true rfl⟩) ?_
    exact W.lret (v := j_M_distance zs sc li a b c9) hx hb hr (fun t ht hW => ⟨congrArg (fun z => Outcome.returned (some (Value.long z))) (by unfold j_M_told; rw [if_pos c_2_0]), ht⟩) (fun q h => by cases h) d_M_told_35
  by_cases c_2_1 : what = 1
  · refine lv_tableIn (tgt := 36) hx hb d_M_told_2 (by rw [c_2_1]; decide) (by rw [c_2_1]; decide) (by rw [c_2_1]; rfl) (by decide) ?_
    refine lv_aload_n hx hb d_M_told_36 rfl (lv_at hl 0 rfl) ?_
    refine lv_iload_n hx hb d_M_told_37 rfl (lv_at hl 1 rfl) ?_
    refine lv_iload_n hx hb d_M_told_38 rfl (lv_at hl 2 rfl) ?_
    refine lv_iload_n hx hb d_M_told_39 rfl (lv_at hl 3 rfl) ?_
    have hPc := hP.sub (ws' := [(aM, .inr (3, [.int th0, .ref mS, .ref mC, .ref mL, .ref mK, .int kn, .ref mQ, .ref mT, .ref mD, .ref mA, .ref mB, .ref mG])), (mK, .inl (cI, 6, .inl kp))]) [0, 4] rfl
    refine rd_c (va_runV (As := [.int a, .int b, .int c9]) (rest := []) ⟨hx, hb, hml, hown, hts⟩ (c_M_strength l dC dI cI cL aM th0 kn mS mC mL mK mQ mT mD mA mB mG kp a b c9) (cwV 3 hts (gi_V mw511 mw508 mw510 mw18 mw33) rfl rfl rfl (by decide +kernel) ⟨Nat.le_of_ble_eq_true rfl, Nat.le_of_ble_eq_true rfl⟩) (rd_V hM hPc rfl rfl rfl) rfl rfl hl.1 rfl (lv_room (Nat.le_of_ble_eq_true rfl)) d_M_told_40 ⟨Nat.le_of_ble_eq_true rfl, Nat.le_of_ble_eq_true rfl⟩) ?_
    exact W.lret (v := j_M_strength kp a b c9) hx hb hr (fun t ht hW => ⟨congrArg (fun z => Outcome.returned (some (Value.long z))) (by unfold j_M_told; rw [if_neg c_2_0, if_pos c_2_1]), ht⟩) (fun q h => by cases h) d_M_told_43
  by_cases c_2_2 : what = 2
  · refine lv_tableIn (tgt := 44) hx hb d_M_told_2 (by rw [c_2_2]; decide) (by rw [c_2_2]; decide) (by rw [c_2_2]; rfl) (by decide) ?_
    refine lv_aload_n hx hb d_M_told_44 rfl (lv_at hl 0 rfl) ?_
    refine lv_iload_n hx hb d_M_told_45 rfl (lv_at hl 1 rfl) ?_
    refine lv_iload_n hx hb d_M_told_46 rfl (lv_at hl 2 rfl) ?_
    refine lv_iload_n hx hb d_M_told_47 rfl (lv_at hl 3 rfl) ?_
    have hPc := hP.sub (ws' := [(aM, .inr (3, [.int th0, .ref mS, .ref mC, .ref mL, .ref mK, .int kn, .ref mQ, .ref mT, .ref mD, .ref mA, .ref mB, .ref mG])), (mK, .inl (cI, 6, .inl kp))]) [0, 4] rfl
    refine rd_c (va_runV (As := [.int a, .int b, .int c9]) (rest := []) ⟨hx, hb, hml, hown, hts⟩ (c_M_strength l dC dI cI cL aM th0 kn mS mC mL mK mQ mT mD mA mB mG kp a b c9) (cwV 3 hts (gi_V mw511 mw508 mw510 mw18 mw33) rfl rfl rfl (by decide +kernel) ⟨Nat.le_of_ble_eq_true rfl, Nat.le_of_ble_eq_true rfl⟩) (rd_V hM hPc rfl rfl rfl) rfl rfl hl.1 rfl (lv_room (Nat.le_of_ble_eq_true rfl)) d_M_told_48 ⟨Nat.le_of_ble_eq_true rfl, Nat.le_of_ble_eq_true rfl⟩) ?_
    refine lv_lconst (v := 1) hx hb d_M_told_51 (by decide) ?_
    refine lv_aload_n hx hb d_M_told_52 rfl (lv_at hl 0 rfl) ?_
    refine lv_iload_n hx hb d_M_told_53 rfl (lv_at hl 1 rfl) ?_
    refine lv_iload_n hx hb d_M_told_54 rfl (lv_at hl 2 rfl) ?_
    refine lv_iload_n hx hb d_M_told_55 rfl (lv_at hl 3 rfl) ?_
    have hPc := hP.sub (ws' := [(aM, .inr (3, [.int th0, .ref mS, .ref mC, .ref mL, .ref mK, .int kn, .ref mQ, .ref mT, .ref mD, .ref mA, .ref mB, .ref mG])), (mS, .inl (cI, 3, .inl zs)), (mC, .inl (cI, 3, .inl sc)), (mL, .inl (cI, 3, .inl li))]) [0, 1, 2, 3] rfl
    refine rd_c (va_runV (As := [.int a, .int b, .int c9]) (rest := [.long 1, .long (j_M_strength kp a b c9)]) ⟨hx, hb, hml, hown, hts⟩ (c_M_distance l dC dI cI cL aM th0 kn mS mC mL mK mQ mT mD mA mB mG zs sc li a b c9) (cwV 3 hts (gi_V mw503 mw500 mw502 mw16 mw33) rfl rfl rfl (by decide +kernel) ⟨Nat.le_of_ble_eq_true rfl, Nat.le_of_ble_eq_true rfl⟩) (rd_V hM hPc rfl rfl rfl) rfl rfl hl.1 rfl (lv_room (Nat.le_of_ble_eq_true rfl)) d_M_told_56 ⟨Nat.le_of_ble_eq_true rfl, Nat.le_of_ble_eq_true rfl⟩) ?_
    refine lv_ladd hx hb d_M_told_59 ?_
    refine lv_ldiv hx hb d_M_told_60 hne ?_
    exact W.lret (v := (j_M_strength kp a b c9) / (1 + (j_M_distance zs sc li a b c9))) hx hb hr (fun t ht hW => ⟨congrArg (fun z => Outcome.returned (some (Value.long z))) (by unfold j_M_told; rw [if_neg c_2_0, if_neg c_2_1, if_pos c_2_2]), ht⟩) (fun q h => by cases h) d_M_told_61
  refine lv_tableOut (tgt := 62) hx hb d_M_told_2 (by have e0 : what.toInt ≠ 0 := ti_ne c_2_0; have e1 : what.toInt ≠ 1 := ti_ne c_2_1; have e2 : what.toInt ≠ 2 := ti_ne c_2_2; omega) (by decide) ?_
  refine lv_iload_n hx hb d_M_told_62 rfl (lv_at hl 1 rfl) ?_
  refine rd_c (va_runS (As := [.int a]) (rest := []) ⟨hx, hb, hml, hown, hts⟩ (c_M_hits l a) (cwS 1 hts (gi_S mw525 mw523 mw524 mw33) rfl rfl rfl (by decide +kernel) ⟨Nat.le_of_ble_eq_true rfl, Nat.le_of_ble_eq_true rfl⟩) st_S rfl rfl hl.1 rfl (lv_room (Nat.le_of_ble_eq_true rfl)) d_M_told_63 ⟨Nat.le_of_ble_eq_true rfl, Nat.le_of_ble_eq_true rfl⟩) ?_
  refine lv_iload_n hx hb d_M_told_66 rfl (lv_at hl 2 rfl) ?_
  refine rd_c (va_runS (As := [.int b]) (rest := [.int (j_M_hits a)]) ⟨hx, hb, hml, hown, hts⟩ (c_M_hits l b) (cwS 1 hts (gi_S mw525 mw523 mw524 mw33) rfl rfl rfl (by decide +kernel) ⟨Nat.le_of_ble_eq_true rfl, Nat.le_of_ble_eq_true rfl⟩) st_S rfl rfl hl.1 rfl (lv_room (Nat.le_of_ble_eq_true rfl)) d_M_told_67 ⟨Nat.le_of_ble_eq_true rfl, Nat.le_of_ble_eq_true rfl⟩) ?_
  refine lv_iadd hx hb d_M_told_70 ?_
  refine lv_iload_n hx hb d_M_told_71 rfl (lv_at hl 3 rfl) ?_
  refine rd_c (va_runS (As := [.int c9]) (rest := [.int ((j_M_hits a) + (j_M_hits b))]) ⟨hx, hb, hml, hown, hts⟩ (c_M_hits l c9) (cwS 1 hts (gi_S mw525 mw523 mw524 mw33) rfl rfl rfl (by decide +kernel) ⟨Nat.le_of_ble_eq_true rfl, Nat.le_of_ble_eq_true rfl⟩) st_S rfl rfl hl.1 rfl (lv_room (Nat.le_of_ble_eq_true rfl)) d_M_told_72 ⟨Nat.le_of_ble_eq_true rfl, Nat.le_of_ble_eq_true rfl⟩) ?_
  refine lv_iadd hx hb d_M_told_75 ?_
  refine lv_i2l hx hb d_M_told_76 rfl ?_
  exact W.lret (v := (((j_M_hits a) + (j_M_hits b)) + (j_M_hits c9)).toInt64) hx hb hr (fun t ht hW => ⟨congrArg (fun z => Outcome.returned (some (Value.long z))) (by unfold j_M_told; rw [if_neg c_2_0, if_neg c_2_1, if_neg c_2_2]), ht⟩) (fun q h => by cases h) d_M_told_77
