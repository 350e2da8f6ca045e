def wi (n lo hi : Int32) : Prop := lo ≤ n ∧ n ≤ hi
def wn3 (a b c : Int32) : Prop := wi a (-40) 40 ∧ wi b (-40) 40 ∧ wi c (-40) 40
def wpt (wX wY wZ x y z : Int32) : Prop := wi x 0 wX ∧ wi y 0 wY ∧ wi z 0 wZ
theorem wi_1 {n lo hi : Int32} (h : wi n lo hi) : ¬ n < lo := by
  have := h.1
  rw [Int32.le_iff_toInt_le] at this
  rw [Int32.lt_iff_toInt_lt]
  omega
theorem wi_no {n lo hi : Int32} (h1 : ¬ n < lo) (h2 : n ≤ hi) : wi n lo hi := by
  refine ⟨?_, h2⟩
  rw [Int32.lt_iff_toInt_lt] at h1
  rw [Int32.le_iff_toInt_le]
  omega

set_option maxHeartbeats 4000000 in
set_option maxRecDepth 100000 in
theorem c_R_requireWithin (l : Launch) (n : Int32) (lo : Int32) (hi : Int32) (h : wi n lo hi) : Met l y_R_requireWithin w_R_requireWithin ({ frames := 0, cells := 0, slots := 0, locals := 0 }) (st_P [.int n, .int lo, .int hi]) (va_Sv (fun _ => True)) 0 0 (fun _ => False) := by
  refine Met.ofW (cc := b_R_requireWithin) (maxL := 3) (ret := none) (by decide) rfl ?_
  intro p e s m args below meth c s₁ B hml hv
  obtain ⟨rfl, -⟩ := hv
  have hx := B.exec
  have hb := B.bytes
  have hr := B.returns
  have hts := atoms_spec (ws := w_R_requireWithin) B.pre
  have hown : s.vm.findClass "RoomEchoes" = some m.cls := findClass_of_methodNamed B.named
  have hlocks := B.notSynchronized
  have hl := lv_entry ([.int n, .int lo, .int hi]) (n := 3) (Nat.le_of_ble_eq_true rfl)
  rw [lg_entry_eq]
  generalize (lg_sl ([.int n, .int lo, .int hi]) ++ List.replicate (3 - (lg_sl ([.int n, .int lo, .int hi])).length) Slot.unset).toArray = ls at hl ⊢
  have hl : lv_has ls 3 [(0, .int n), (1, .int lo), (2, .int hi)] := hl
  refine lv_iload_n hx hb d_R_requireWithin_0 rfl (lv_at hl 0 rfl) ?_
  refine lv_iload_n hx hb d_R_requireWithin_1 rfl (lv_at hl 1 rfl) ?_
  refine lv_icmp_lt (tgt := 10) hx hb d_R_requireWithin_2 (by decide) (fun c_2 => ?_) (fun c_2 => ?_)
  · skip
    exact absurd c_2 (wi_1 h)
  · skip
    refine lv_iload_n hx hb d_R_requireWithin_5 rfl (lv_at hl 0 rfl) ?_
    refine lv_iload_n hx hb d_R_requireWithin_6 rfl (lv_at hl 2 rfl) ?_
    refine lv_icmp_le (tgt := 20) hx hb d_R_requireWithin_7 (by decide) (fun c_7 => ?_) (fun c_7 => ?_)
    · skip
      exact W.vret hx hb hr (fun t ht hW => ⟨rfl, trivial, ht⟩) (fun q h => by cases h) d_R_requireWithin_20
    · skip
      exact absurd h.2 c_7

set_option maxHeartbeats 4000000 in
set_option maxRecDepth 100000 in
theorem t_R_requireWithin (l : Launch) (hst : l.stackTraces = false) (dC : Nat → ClassId) (dI : Nat → Nat → Nat) (cI cL : ClassId) (sa1 sa2 : Nat) (n : Int32) (lo : Int32) (hi : Int32) (h : ¬ (wi n lo hi)) : TX l y_R_requireWithin w_R_requireWithin ({ frames := 6, cells := 1, slots := 6, locals := 82 }) (tx_P (dC, dI) cI cL [] sa1 sa2 [.int n, .int lo, .int hi]) := by
  refine vx_ofW (cc := b_R_requireWithin) (maxL := 3) (ret := none) (by decide) rfl ?_
  intro p e s m args below meth c s₁ B hml htab hv
  obtain ⟨rfl, hP, hM, hT⟩ := hv
  have hx := B.exec
  have hb := B.bytes
  have hr := B.returns
  have hts := atoms_spec (ws := w_R_requireWithin) B.pre
  have hown : s.vm.findClass "RoomEchoes" = some m.cls := findClass_of_methodNamed B.named
  have hlocks := B.notSynchronized
  have hK := hM.1
  have hl := lv_entry ([.int n, .int lo, .int hi]) (n := 3) (Nat.le_of_ble_eq_true rfl)
  rw [lg_entry_eq]
  generalize (lg_sl ([.int n, .int lo, .int hi]) ++ List.replicate (3 - (lg_sl ([.int n, .int lo, .int hi])).length) Slot.unset).toArray = ls at hl ⊢
  have hl : lv_has ls 3 [(0, .int n), (1, .int lo), (2, .int hi)] := hl
  refine lv_iload_n hx hb d_R_requireWithin_0 rfl (lv_at hl 0 rfl) ?_
  refine lv_iload_n hx hb d_R_requireWithin_1 rfl (lv_at hl 1 rfl) ?_
  refine lv_icmp_lt (tgt := 10) hx hb d_R_requireWithin_2 (by decide) (fun c_2 => ?_) (fun c_2 => ?_)
  · skip
    exact vx_throwS (A := fun _ => False) (names := up9) (rest := []) hx hb hst hown (by decide +kernel) up_fit (ht_ hts mw141) (ht_ hts mw37) hT.2.2.1 (tx_at hts hT) atS_ok hT.1 hT.2.1 va_S.rf (by rw [hml]; exact hl.1) d_R_requireWithin_10 d_R_requireWithin_13 d_R_requireWithin_14 d_R_requireWithin_16 d_R_requireWithin_19 (fun x hx => (htab x hx).elim) (Nat.le_of_ble_eq_true rfl) (Nat.le_of_ble_eq_true rfl) (Nat.le_of_ble_eq_true rfl) (Nat.le_of_ble_eq_true rfl) hlocks (fun t ha hz hk => ⟨(), trivial, rfl, hz, fun q hq _ => hk q hq⟩) (fun z hz => nomatch hz) (Nat.le_refl _) (Nat.le_refl _)
  · skip
    refine lv_iload_n hx hb d_R_requireWithin_5 rfl (lv_at hl 0 rfl) ?_
    refine lv_iload_n hx hb d_R_requireWithin_6 rfl (lv_at hl 2 rfl) ?_
    refine lv_icmp_le (tgt := 20) hx hb d_R_requireWithin_7 (by decide) (fun c_7 => ?_) (fun c_7 => ?_)
    · skip
      exact absurd (wi_no c_2 c_7) h
    · skip
      exact vx_throwS (A := fun _ => False) (names := up9) (rest := []) hx hb hst hown (by decide +kernel) up_fit (ht_ hts mw141) (ht_ hts mw37) hT.2.2.1 (tx_at hts hT) atS_ok hT.1 hT.2.1 va_S.rf (by rw [hml]; exact hl.1) d_R_requireWithin_10 d_R_requireWithin_13 d_R_requireWithin_14 d_R_requireWithin_16 d_R_requireWithin_19 (fun x hx => (htab x hx).elim) (Nat.le_of_ble_eq_true rfl) (Nat.le_of_ble_eq_true rfl) (Nat.le_of_ble_eq_true rfl) (Nat.le_of_ble_eq_true rfl) hlocks (fun t ha hz hk => ⟨(), trivial, rfl, hz, fun q hq _ => hk q hq⟩) (fun z hz => nomatch hz) (Nat.le_refl _) (Nat.le_refl _)

set_option maxHeartbeats 4000000 in
set_option maxRecDepth 100000 in
theorem c_R_requireDistance (l : Launch) (d : Int64) (h : 0 ≤ d) : Met l y_R_requireDistance w_R_requireDistance ({ frames := 0, cells := 0, slots := 0, locals := 0 }) (st_P [.long d]) (va_Sv (fun _ => True)) 0 0 (fun _ => False) := by
  refine Met.ofW (cc := b_R_requireDistance) (maxL := 2) (ret := none) (by decide) rfl ?_
  intro p e s m args below meth c s₁ B hml hv
  obtain ⟨rfl, -⟩ := hv
  have hx := B.exec
  have hb := B.bytes
  have hr := B.returns
  have hts := atoms_spec (ws := w_R_requireDistance) B.pre
  have hown : s.vm.findClass "RoomEchoes" = some m.cls := findClass_of_methodNamed B.named
  have hlocks := B.notSynchronized
  have hl := lv_entry ([.long d]) (n := 2) (Nat.le_of_ble_eq_true rfl)
  rw [lg_entry_eq]
  generalize (lg_sl ([.long d]) ++ List.replicate (2 - (lg_sl ([.long d])).length) Slot.unset).toArray = ls at hl ⊢
  have hl : lv_has ls 2 [(0, .long d)] := hl
  refine lv_lload_n hx hb d_R_requireDistance_0 rfl (lv_at hl 0 rfl) ?_
  refine lv_lconst (v := 0) hx hb d_R_requireDistance_1 (by decide) ?_
  refine W.lcmp hx hb d_R_requireDistance_2 ?_
  refine lv_if_ge (tgt := 16) hx hb d_R_requireDistance_3 (by decide) (fun c_3 => ?_) (fun c_3 => ?_)
  · rw [lg_cmp_ge] at c_3
    exact W.vret hx hb hr (fun t ht hW => ⟨rfl, trivial, ht⟩) (fun q h => by cases h) d_R_requireDistance_16
  · rw [lg_cmp_ge] at c_3
    exact absurd h c_3

set_option maxHeartbeats 4000000 in
set_option maxRecDepth 100000 in
theorem t_R_requireDistance (l : Launch) (hst : l.stackTraces = false) (dC : Nat → ClassId) (dI : Nat → Nat → Nat) (cI cL : ClassId) (sa1 sa2 : Nat) (d : Int64) (h : ¬ (0 ≤ d)) : TX l y_R_requireDistance w_R_requireDistance ({ frames := 6, cells := 1, slots := 6, locals := 82 }) (tx_P (dC, dI) cI cL [] sa1 sa2 [.long d]) := by
  refine vx_ofW (cc := b_R_requireDistance) (maxL := 2) (ret := none) (by decide) rfl ?_
  intro p e s m args below meth c s₁ B hml htab hv
  obtain ⟨rfl, hP, hM, hT⟩ := hv
  have hx := B.exec
  have hb := B.bytes
  have hr := B.returns
  have hts := atoms_spec (ws := w_R_requireDistance) B.pre
  have hown : s.vm.findClass "RoomEchoes" = some m.cls := findClass_of_methodNamed B.named
  have hlocks := B.notSynchronized
  have hK := hM.1
  have hl := lv_entry ([.long d]) (n := 2) (Nat.le_of_ble_eq_true rfl)
  rw [lg_entry_eq]
  generalize (lg_sl ([.long d]) ++ List.replicate (2 - (lg_sl ([.long d])).length) Slot.unset).toArray = ls at hl ⊢
  have hl : lv_has ls 2 [(0, .long d)] := hl
  refine lv_lload_n hx hb d_R_requireDistance_0 rfl (lv_at hl 0 rfl) ?_
  refine lv_lconst (v := 0) hx hb d_R_requireDistance_1 (by decide) ?_
  refine W.lcmp hx hb d_R_requireDistance_2 ?_
  refine lv_if_ge (tgt := 16) hx hb d_R_requireDistance_3 (by decide) (fun c_3 => ?_) (fun c_3 => ?_)
  · rw [lg_cmp_ge] at c_3
    exact absurd c_3 h
  · rw [lg_cmp_ge] at c_3
    exact vx_throwS (A := fun _ => False) (names := up9) (rest := []) hx hb hst hown (by decide +kernel) up_fit (ht_ hts mw141) (ht_ hts mw37) hT.2.2.2.1 (tx_at hts hT) atS_ok hT.1 hT.2.1 va_S.rf (by rw [hml]; exact hl.1) d_R_requireDistance_6 d_R_requireDistance_9 d_R_requireDistance_10 d_R_requireDistance_12 d_R_requireDistance_15 (fun x hx => (htab x hx).elim) (Nat.le_of_ble_eq_true rfl) (Nat.le_of_ble_eq_true rfl) (Nat.le_of_ble_eq_true rfl) (Nat.le_of_ble_eq_true rfl) hlocks (fun t ha hz hk => ⟨(), trivial, rfl, hz, fun q hq _ => hk q hq⟩) (fun z hz => nomatch hz) (Nat.le_refl _) (Nat.le_refl _)

set_option maxHeartbeats 4000000 in
set_option maxRecDepth 100000 in
theorem c_R_requireNumbers (l : Launch) (a : Int32) (b : Int32) (c9 : Int32) (h : wn3 a b c9) : Met l y_R_requireNumbers w_R_requireNumbers ({ frames := 1, cells := 0, slots := 0, locals := 22 }) (st_P [.int a, .int b, .int c9]) (va_Sv (fun _ => True)) 0 0 (fun _ => False) := by
  refine Met.ofW (cc := b_R_requireNumbers) (maxL := 3) (ret := none) (by decide) rfl ?_
  intro p e s m args below meth c s₁ B hml hv
  obtain ⟨rfl, -⟩ := hv
  have hx := B.exec
  have hb := B.bytes
  have hr := B.returns
  have hts := atoms_spec (ws := w_R_requireNumbers) B.pre
  have hown : s.vm.findClass "RoomEchoes" = some m.cls := findClass_of_methodNamed B.named
  have hlocks := B.notSynchronized
  have hl := lv_entry ([.int a, .int b, .int c9]) (n := 3) (Nat.le_of_ble_eq_true rfl)
  rw [lg_entry_eq]
  generalize (lg_sl ([.int a, .int b, .int c9]) ++ List.replicate (3 - (lg_sl ([.int a, .int b, .int c9])).length) Slot.unset).toArray = ls at hl ⊢
  have hl : lv_has ls 3 [(0, .int a), (1, .int b), (2, .int c9)] := hl
  refine lv_iload_n hx hb d_R_requireNumbers_0 rfl (lv_at hl 0 rfl) ?_
  refine lv_bipush (v := (-40)) hx hb d_R_requireNumbers_1 (by decide) ?_
  refine lv_bipush (v := 40) hx hb d_R_requireNumbers_3 (by decide) ?_
  refine rd_cv (va_runS (As := [.int a, .int (-40), .int 40]) (rest := []) ⟨hx, hb, hml, hown, hts⟩ (c_R_requireWithin l a (-40) 40 h.1) (cwS 3 hts (gi_S mw140 mw138 mw139 mw29) rfl rfl rfl (by decide +kernel) ⟨Nat.le_of_ble_eq_true rfl, Nat.le_of_ble_eq_true rfl⟩) st_S rfl rfl hl.1 rfl (lv_room (Nat.le_of_ble_eq_true rfl)) d_R_requireNumbers_5 ⟨Nat.le_of_ble_eq_true rfl, Nat.le_of_ble_eq_true rfl⟩) ?_
  refine lv_iload_n hx hb d_R_requireNumbers_8 rfl (lv_at hl 1 rfl) ?_
  refine lv_bipush (v := (-40)) hx hb d_R_requireNumbers_9 (by decide) ?_
  refine lv_bipush (v := 40) hx hb d_R_requireNumbers_11 (by decide) ?_
  refine rd_cv (va_runS (As := [.int b, .int (-40), .int 40]) (rest := []) ⟨hx, hb, hml, hown, hts⟩ (c_R_requireWithin l b (-40) 40 h.2.1) (cwS 3 hts (gi_S mw140 mw138 mw139 mw29) rfl rfl rfl (by decide +kernel) ⟨Nat.le_of_ble_eq_true rfl, Nat.le_of_ble_eq_true rfl⟩) st_S rfl rfl hl.1 rfl (lv_room (Nat.le_of_ble_eq_true rfl)) d_R_requireNumbers_13 ⟨Nat.le_of_ble_eq_true rfl, Nat.le_of_ble_eq_true rfl⟩) ?_
  refine lv_iload_n hx hb d_R_requireNumbers_16 rfl (lv_at hl 2 rfl) ?_
  refine lv_bipush (v := (-40)) hx hb d_R_requireNumbers_17 (by decide) ?_
  refine lv_bipush (v := 40) hx hb d_R_requireNumbers_19 (by decide) ?_
  refine rd_cv (va_runS (As := [.int c9, .int (-40), .int 40]) (rest := []) ⟨hx, hb, hml, hown, hts⟩ (c_R_requireWithin l c9 (-40) 40 h.2.2) (cwS 3 hts (gi_S mw140 mw138 mw139 mw29) rfl rfl rfl (by decide +kernel) ⟨Nat.le_of_ble_eq_true rfl, Nat.le_of_ble_eq_true rfl⟩) st_S rfl rfl hl.1 rfl (lv_room (Nat.le_of_ble_eq_true rfl)) d_R_requireNumbers_21 ⟨Nat.le_of_ble_eq_true rfl, Nat.le_of_ble_eq_true rfl⟩) ?_
  exact W.vret hx hb hr (fun t ht hW => ⟨rfl, trivial, ht⟩) (fun q h => by cases h) d_R_requireNumbers_24

set_option maxHeartbeats 4000000 in
set_option maxRecDepth 100000 in
theorem t_R_requireNumbers (l : Launch) (hst : l.stackTraces = false) (dC : Nat → ClassId) (dI : Nat → Nat → Nat) (cI cL : ClassId) (sa1 sa2 : Nat) (a : Int32) (b : Int32) (c9 : Int32) (h : ¬ (wn3 a b c9)) : TX l y_R_requireNumbers w_R_requireNumbers ({ frames := 7, cells := 1, slots := 6, locals := 104 }) (tx_P (dC, dI) cI cL [] sa1 sa2 [.int a, .int b, .int c9]) := by
  refine vx_ofW (cc := b_R_requireNumbers) (maxL := 3) (ret := none) (by decide) rfl ?_
  intro p e s m args below meth c s₁ B hml htab hv
  obtain ⟨rfl, hP, hM, hT⟩ := hv
  have hx := B.exec
  have hb := B.bytes
  have hr := B.returns
  have hts := atoms_spec (ws := w_R_requireNumbers) B.pre
  have hown : s.vm.findClass "RoomEchoes" = some m.cls := findClass_of_methodNamed B.named
  have hlocks := B.notSynchronized
  have hK := hM.1
  have hl := lv_entry ([.int a, .int b, .int c9]) (n := 3) (Nat.le_of_ble_eq_true rfl)
  rw [lg_entry_eq]
  generalize (lg_sl ([.int a, .int b, .int c9]) ++ List.replicate (3 - (lg_sl ([.int a, .int b, .int c9])).length) Slot.unset).toArray = ls at hl ⊢
  have hl : lv_has ls 3 [(0, .int a), (1, .int b), (2, .int c9)] := hl
  refine lv_iload_n hx hb d_R_requireNumbers_0 rfl (lv_at hl 0 rfl) ?_
  refine lv_bipush (v := (-40)) hx hb d_R_requireNumbers_1 (by decide) ?_
  refine lv_bipush (v := 40) hx hb d_R_requireNumbers_3 (by decide) ?_
  by_cases q_5 : wi a (-40) 40
  rotate_left
  · have hPc := hP.sub (ws' := []) [] rfl
    exact tx_out (vx_runS (As := [.int a, .int (-40), .int 40]) (rest := []) ⟨hx, hb, hml, hown, hts⟩ (t_R_requireWithin l hst dC dI cI cL sa1 sa2 a (-40) 40 q_5) (cwS 3 hts (gi_S mw140 mw138 mw139 mw29) rfl rfl rfl (by decide +kernel) ⟨Nat.le_of_ble_eq_true rfl, Nat.le_of_ble_eq_true rfl⟩) (tx_S hM hPc hT) rfl rfl hl.1 rfl (lv_room (Nat.le_of_ble_eq_true rfl)) d_R_requireNumbers_5 ⟨Nat.le_of_ble_eq_true rfl, Nat.le_of_ble_eq_true rfl⟩) htab hlocks
  refine rd_cv (va_runS (As := [.int a, .int (-40), .int 40]) (rest := []) ⟨hx, hb, hml, hown, hts⟩ (c_R_requireWithin l a (-40) 40 q_5) (cwS 3 hts (gi_S mw140 mw138 mw139 mw29) rfl rfl rfl (by decide +kernel) ⟨Nat.le_of_ble_eq_true rfl, Nat.le_of_ble_eq_true rfl⟩) st_S rfl rfl hl.1 rfl (lv_room (Nat.le_of_ble_eq_true rfl)) d_R_requireNumbers_5 ⟨Nat.le_of_ble_eq_true rfl, Nat.le_of_ble_eq_true rfl⟩) ?_
  refine lv_iload_n hx hb d_R_requireNumbers_8 rfl (lv_at hl 1 rfl) ?_
  refine lv_bipush (v := (-40)) hx hb d_R_requireNumbers_9 (by decide) ?_
  refine lv_bipush (v := 40) hx hb d_R_requireNumbers_11 (by decide) ?_
  by_cases q_13 : wi b (-40) 40
  rotate_left
  · have hPc := hP.sub (ws' := []) [] rfl
    exact tx_out (vx_runS (As := [.int b, .int (-40), .int 40]) (rest := []) ⟨hx, hb, hml, hown, hts⟩ (t_R_requireWithin l hst dC dI cI cL sa1 sa2 b (-40) 40 q_13) (cwS 3 hts (gi_S mw140 mw138 mw139 mw29) rfl rfl rfl (by decide +kernel) ⟨Nat.le_of_ble_eq_true rfl, Nat.le_of_ble_eq_true rfl⟩) (tx_S hM hPc hT) rfl rfl hl.1 rfl (lv_room (Nat.le_of_ble_eq_true rfl)) d_R_requireNumbers_13 ⟨Nat.le_of_ble_eq_true rfl, Nat.le_of_ble_eq_true rfl⟩) htab hlocks
  refine rd_cv (va_runS (As := [.int b, .int (-40), .int 40]) (rest := []) ⟨hx, hb, hml, hown, hts⟩ (c_R_requireWithin l b (-40) 40 q_13) (cwS 3 hts (gi_S mw140 mw138 mw139 mw29) rfl rfl rfl (by decide +kernel) ⟨Nat.le_of_ble_eq_true rfl, Nat.le_of_ble_eq_true rfl⟩) st_S rfl rfl hl.1 rfl (lv_room (Nat.le_of_ble_eq_true rfl)) d_R_requireNumbers_13 ⟨Nat.le_of_ble_eq_true rfl, Nat.le_of_ble_eq_true rfl⟩) ?_
  refine lv_iload_n hx hb d_R_requireNumbers_16 rfl (lv_at hl 2 rfl) ?_
  refine lv_bipush (v := (-40)) hx hb d_R_requireNumbers_17 (by decide) ?_
  refine lv_bipush (v := 40) hx hb d_R_requireNumbers_19 (by decide) ?_
  by_cases q_21 : wi c9 (-40) 40
  rotate_left
  · have hPc := hP.sub (ws' := []) [] rfl
    exact tx_out (vx_runS (As := [.int c9, .int (-40), .int 40]) (rest := []) ⟨hx, hb, hml, hown, hts⟩ (t_R_requireWithin l hst dC dI cI cL sa1 sa2 c9 (-40) 40 q_21) (cwS 3 hts (gi_S mw140 mw138 mw139 mw29) rfl rfl rfl (by decide +kernel) ⟨Nat.le_of_ble_eq_true rfl, Nat.le_of_ble_eq_true rfl⟩) (tx_S hM hPc hT) rfl rfl hl.1 rfl (lv_room (Nat.le_of_ble_eq_true rfl)) d_R_requireNumbers_21 ⟨Nat.le_of_ble_eq_true rfl, Nat.le_of_ble_eq_true rfl⟩) htab hlocks
  exact absurd (show wn3 a b c9 from ⟨q_5, q_13, q_21⟩) h

set_option maxHeartbeats 4000000 in
set_option maxRecDepth 100000 in
theorem c_R_requirePoint (l : Launch) (dC : Nat → ClassId) (dI : Nat → Nat → Nat) (cI cL : ClassId) (aR : Nat) (aX : Nat) (aY : Nat) (aZ : Nat) (aK : Nat) (aF : Nat) (aE : Nat) (aL : Nat) (od : Int32) (wd : Int32) (wX : Int32) (sX : Int32) (tX : Int32) (rX : Nat) (kX : Nat) (wY : Int32) (sY : Int32) (tY : Int32) (rY : Nat) (kY : Nat) (wZ : Int32) (sZ : Int32) (tZ : Int32) (rZ : Nat) (kZ : Nat) (x : Int32) (y : Int32) (z : Int32) (h : wpt wX wY wZ x y z) : Met l y_R_requirePoint w_R_requirePoint ({ frames := 1, cells := 0, slots := 0, locals := 22 }) (rd_P (dC, dI) cI cL [(aR, .inr (2, [.ref aX, .ref aY, .ref aZ, .ref aK, .ref aF, .ref aE, .ref aL, .int od, .int wd])), (aX, .inr (0, [.int wX, .int sX, .int tX, .ref rX, .ref kX])), (aY, .inr (0, [.int wY, .int sY, .int tY, .ref rY, .ref kY])), (aZ, .inr (0, [.int wZ, .int sZ, .int tZ, .ref rZ, .ref kZ]))] [.ref aR, .int x, .int y, .int z]) (va_Sv (fun _ => True)) 0 0 (fun _ => False) := by
  refine Met.ofW (cc := b_R_requirePoint) (maxL := 4) (ret := none) (by decide) rfl ?_
  intro p e s m args below meth c s₁ B hml hv
  obtain ⟨rfl, hP, hM⟩ := hv
  have hx := B.exec
  have hb := B.bytes
  have hr := B.returns
  have hts := atoms_spec (ws := w_R_requirePoint) B.pre
  have hown : s.vm.findClass "RoomEchoes" = some m.cls := findClass_of_methodNamed B.named
  have hlocks := B.notSynchronized
  have hK := hM.1
  have hl := lv_entry ([.ref aR, .int x, .int y, .int z]) (n := 4) (Nat.le_of_ble_eq_true rfl)
  rw [lg_entry_eq]
  generalize (lg_sl ([.ref aR, .int x, .int y, .int z]) ++ List.replicate (4 - (lg_sl ([.ref aR, .int x, .int y, .int z])).length) Slot.unset).toArray = ls at hl ⊢
  have hl : lv_has ls 4 [(0, .ref aR), (1, .int x), (2, .int y), (3, .int z)] := hl
  refine lv_iload_n hx hb d_R_requirePoint_0 rfl (lv_at hl 1 rfl) ?_
  refine lv_iconst (v := 0) hx hb d_R_requirePoint_1 (by decide) ?_
  refine lv_aload_n hx hb d_R_requirePoint_2 rfl (lv_at hl 0 rfl) ?_
  refine va_get (D := (dC, dI)) (ci := 2) (v := .ref aX) (C := "RoomEchoes") (T := FT_R) (N := 9) hx hb hts (hi_ in_R) hown hK hP 0 rfl rfl 0 (by decide) (ht_ hts mw95) (fun _ h9 => h9) rfl d_R_requirePoint_3 ?_
  refine va_get (D := (dC, dI)) (ci := 0) (v := .int wX) (C := "RoomEchoes$Axis") (T := FT_A) (N := 5) hx hb hts (hi_ in_A) hown hK hP 1 rfl rfl 0 (by decide) (ht_ hts mw77) (fun _ h9 => h9) rfl d_R_requirePoint_6 ?_
  refine rd_cv (va_runS (As := [.int x, .int 0, .int wX]) (rest := []) ⟨hx, hb, hml, hown, hts⟩ (c_R_requireWithin l x 0 wX h.1) (cwS 3 hts (gi_S mw140 mw138 mw139 mw29) rfl rfl rfl (by decide +kernel) ⟨Nat.le_of_ble_eq_true rfl, Nat.le_of_ble_eq_true rfl⟩) st_S rfl rfl hl.1 rfl (lv_room (Nat.le_of_ble_eq_true rfl)) d_R_requirePoint_9 ⟨Nat.le_of_ble_eq_true rfl, Nat.le_of_ble_eq_true rfl⟩) ?_
  refine lv_iload_n hx hb d_R_requirePoint_12 rfl (lv_at hl 2 rfl) ?_
  refine lv_iconst (v := 0) hx hb d_R_requirePoint_13 (by decide) ?_
  refine lv_aload_n hx hb d_R_requirePoint_14 rfl (lv_at hl 0 rfl) ?_
  refine va_get (D := (dC, dI)) (ci := 2) (v := .ref aY) (C := "RoomEchoes") (T := FT_R) (N := 9) hx hb hts (hi_ in_R) hown hK hP 0 rfl rfl 1 (by decide) (ht_ hts mw96) (fun _ h9 => h9) rfl d_R_requirePoint_15 ?_
  refine va_get (D := (dC, dI)) (ci := 0) (v := .int wY) (C := "RoomEchoes$Axis") (T := FT_A) (N := 5) hx hb hts (hi_ in_A) hown hK hP 2 rfl rfl 0 (by decide) (ht_ hts mw77) (fun _ h9 => h9) rfl d_R_requirePoint_18 ?_
  refine rd_cv (va_runS (As := [.int y, .int 0, .int wY]) (rest := []) ⟨hx, hb, hml, hown, hts⟩ (c_R_requireWithin l y 0 wY h.2.1) (cwS 3 hts (gi_S mw140 mw138 mw139 mw29) rfl rfl rfl (by decide +kernel) ⟨Nat.le_of_ble_eq_true rfl, Nat.le_of_ble_eq_true rfl⟩) st_S rfl rfl hl.1 rfl (lv_room (Nat.le_of_ble_eq_true rfl)) d_R_requirePoint_21 ⟨Nat.le_of_ble_eq_true rfl, Nat.le_of_ble_eq_true rfl⟩) ?_
  refine lv_iload_n hx hb d_R_requirePoint_24 rfl (lv_at hl 3 rfl) ?_
  refine lv_iconst (v := 0) hx hb d_R_requirePoint_25 (by decide) ?_
  refine lv_aload_n hx hb d_R_requirePoint_26 rfl (lv_at hl 0 rfl) ?_
  refine va_get (D := (dC, dI)) (ci := 2) (v := .ref aZ) (C := "RoomEchoes") (T := FT_R) (N := 9) hx hb hts (hi_ in_R) hown hK hP 0 rfl rfl 2 (by decide) (ht_ hts mw97) (fun _ h9 => h9) rfl d_R_requirePoint_27 ?_
  refine va_get (D := (dC, dI)) (ci := 0) (v := .int wZ) (C := "RoomEchoes$Axis") (T := FT_A) (N := 5) hx hb hts (hi_ in_A) hown hK hP 3 rfl rfl 0 (by decide) (ht_ hts mw77) (fun _ h9 => h9) rfl d_R_requirePoint_30 ?_
  refine rd_cv (va_runS (As := [.int z, .int 0, .int wZ]) (rest := []) ⟨hx, hb, hml, hown, hts⟩ (c_R_requireWithin l z 0 wZ h.2.2) (cwS 3 hts (gi_S mw140 mw138 mw139 mw29) rfl rfl rfl (by decide +kernel) ⟨Nat.le_of_ble_eq_true rfl, Nat.le_of_ble_eq_true rfl⟩) st_S rfl rfl hl.1 rfl (lv_room (Nat.le_of_ble_eq_true rfl)) d_R_requirePoint_33 ⟨Nat.le_of_ble_eq_true rfl, Nat.le_of_ble_eq_true rfl⟩) ?_
  exact W.vret hx hb hr (fun t ht hW => ⟨rfl, trivial, ht⟩) (fun q h => by cases h) d_R_requirePoint_36

set_option maxHeartbeats 4000000 in
set_option maxRecDepth 100000 in
theorem t_R_requirePoint (l : Launch) (hst : l.stackTraces = false) (dC : Nat → ClassId) (dI : Nat → Nat → Nat) (cI cL : ClassId) (sa1 sa2 : Nat) (aR : Nat) (aX : Nat) (aY : Nat) (aZ : Nat) (aK : Nat) (aF : Nat) (aE : Nat) (aL : Nat) (od : Int32) (wd : Int32) (wX : Int32) (sX : Int32) (tX : Int32) (rX : Nat) (kX : Nat) (wY : Int32) (sY : Int32) (tY : Int32) (rY : Nat) (kY : Nat) (wZ : Int32) (sZ : Int32) (tZ : Int32) (rZ : Nat) (kZ : Nat) (x : Int32) (y : Int32) (z : Int32) (h : ¬ (wpt wX wY wZ x y z)) : TX l y_R_requirePoint w_R_requirePoint ({ frames := 7, cells := 1, slots := 6, locals := 104 }) (tx_P (dC, dI) cI cL [(aR, .inr (2, [.ref aX, .ref aY, .ref aZ, .ref aK, .ref aF, .ref aE, .ref aL, .int od, .int wd])), (aX, .inr (0, [.int wX, .int sX, .int tX, .ref rX, .ref kX])), (aY, .inr (0, [.int wY, .int sY, .int tY, .ref rY, .ref kY])), (aZ, .inr (0, [.int wZ, .int sZ, .int tZ, .ref rZ, .ref kZ]))] sa1 sa2 [.ref aR, .int x, .int y, .int z]) := by
  refine vx_ofW (cc := b_R_requirePoint) (maxL := 4) (ret := none) (by decide) rfl ?_
  intro p e s m args below meth c s₁ B hml htab hv
  obtain ⟨rfl, hP, hM, hT⟩ := hv
  have hx := B.exec
  have hb := B.bytes
  have hr := B.returns
  have hts := atoms_spec (ws := w_R_requirePoint) B.pre
  have hown : s.vm.findClass "RoomEchoes" = some m.cls := findClass_of_methodNamed B.named
  have hlocks := B.notSynchronized
  have hK := hM.1
  have hl := lv_entry ([.ref aR, .int x, .int y, .int z]) (n := 4) (Nat.le_of_ble_eq_true rfl)
  rw [lg_entry_eq]
  generalize (lg_sl ([.ref aR, .int x, .int y, .int z]) ++ List.replicate (4 - (lg_sl ([.ref aR, .int x, .int y, .int z])).length) Slot.unset).toArray = ls at hl ⊢
  have hl : lv_has ls 4 [(0, .ref aR), (1, .int x), (2, .int y), (3, .int z)] := hl
  refine lv_iload_n hx hb d_R_requirePoint_0 rfl (lv_at hl 1 rfl) ?_
  refine lv_iconst (v := 0) hx hb d_R_requirePoint_1 (by decide) ?_
  refine lv_aload_n hx hb d_R_requirePoint_2 rfl (lv_at hl 0 rfl) ?_
  refine va_get (D := (dC, dI)) (ci := 2) (v := .ref aX) (C := "RoomEchoes") (T := FT_R) (N := 9) hx hb hts (hi_ in_R) hown hK hP 0 rfl rfl 0 (by decide) (ht_ hts mw95) (fun _ h9 => h9) rfl d_R_requirePoint_3 ?_
  refine va_get (D := (dC, dI)) (ci := 0) (v := .int wX) (C := "RoomEchoes$Axis") (T := FT_A) (N := 5) hx hb hts (hi_ in_A) hown hK hP 1 rfl rfl 0 (by decide) (ht_ hts mw77) (fun _ h9 => h9) rfl d_R_requirePoint_6 ?_
  by_cases q_9 : wi x 0 wX
  rotate_left
  · have hPc := hP.sub (ws' := []) [] rfl
    exact tx_out (vx_runS (As := [.int x, .int 0, .int wX]) (rest := []) ⟨hx, hb, hml, hown, hts⟩ (t_R_requireWithin l hst dC dI cI cL sa1 sa2 x 0 wX q_9) (cwS 3 hts (gi_S mw140 mw138 mw139 mw29) rfl rfl rfl (by decide +kernel) ⟨Nat.le_of_ble_eq_true rfl, Nat.le_of_ble_eq_true rfl⟩) (tx_S hM hPc hT) rfl rfl hl.1 rfl (lv_room (Nat.le_of_ble_eq_true rfl)) d_R_requirePoint_9 ⟨Nat.le_of_ble_eq_true rfl, Nat.le_of_ble_eq_true rfl⟩) htab hlocks
  refine rd_cv (va_runS (As := [.int x, .int 0, .int wX]) (rest := []) ⟨hx, hb, hml, hown, hts⟩ (c_R_requireWithin l x 0 wX q_9) (cwS 3 hts (gi_S mw140 mw138 mw139 mw29) rfl rfl rfl (by decide +kernel) ⟨Nat.le_of_ble_eq_true rfl, Nat.le_of_ble_eq_true rfl⟩) st_S rfl rfl hl.1 rfl (lv_room (Nat.le_of_ble_eq_true rfl)) d_R_requirePoint_9 ⟨Nat.le_of_ble_eq_true rfl, Nat.le_of_ble_eq_true rfl⟩) ?_
  refine lv_iload_n hx hb d_R_requirePoint_12 rfl (lv_at hl 2 rfl) ?_
  refine lv_iconst (v := 0) hx hb d_R_requirePoint_13 (by decide) ?_
  refine lv_aload_n hx hb d_R_requirePoint_14 rfl (lv_at hl 0 rfl) ?_
  refine va_get (D := (dC, dI)) (ci := 2) (v := .ref aY) (C := "RoomEchoes") (T := FT_R) (N := 9) hx hb hts (hi_ in_R) hown hK hP 0 rfl rfl 1 (by decide) (ht_ hts mw96) (fun _ h9 => h9) rfl d_R_requirePoint_15 ?_
  refine va_get (D := (dC, dI)) (ci := 0) (v := .int wY) (C := "RoomEchoes$Axis") (T := FT_A) (N := 5) hx hb hts (hi_ in_A) hown hK hP 2 rfl rfl 0 (by decide) (ht_ hts mw77) (fun _ h9 => h9) rfl d_R_requirePoint_18 ?_
  by_cases q_21 : wi y 0 wY
  rotate_left
  · have hPc := hP.sub (ws' := []) [] rfl
    exact tx_out (vx_runS (As := [.int y, .int 0, .int wY]) (rest := []) ⟨hx, hb, hml, hown, hts⟩ (t_R_requireWithin l hst dC dI cI cL sa1 sa2 y 0 wY q_21) (cwS 3 hts (gi_S mw140 mw138 mw139 mw29) rfl rfl rfl (by decide +kernel) ⟨Nat.le_of_ble_eq_true rfl, Nat.le_of_ble_eq_true rfl⟩) (tx_S hM hPc hT) rfl rfl hl.1 rfl (lv_room (Nat.le_of_ble_eq_true rfl)) d_R_requirePoint_21 ⟨Nat.le_of_ble_eq_true rfl, Nat.le_of_ble_eq_true rfl⟩) htab hlocks
  refine rd_cv (va_runS (As := [.int y, .int 0, .int wY]) (rest := []) ⟨hx, hb, hml, hown, hts⟩ (c_R_requireWithin l y 0 wY q_21) (cwS 3 hts (gi_S mw140 mw138 mw139 mw29) rfl rfl rfl (by decide +kernel) ⟨Nat.le_of_ble_eq_true rfl, Nat.le_of_ble_eq_true rfl⟩) st_S rfl rfl hl.1 rfl (lv_room (Nat.le_of_ble_eq_true rfl)) d_R_requirePoint_21 ⟨Nat.le_of_ble_eq_true rfl, Nat.le_of_ble_eq_true rfl⟩) ?_
  refine lv_iload_n hx hb d_R_requirePoint_24 rfl (lv_at hl 3 rfl) ?_
  refine lv_iconst (v := 0) hx hb d_R_requirePoint_25 (by decide) ?_
  refine lv_aload_n hx hb d_R_requirePoint_26 rfl (lv_at hl 0 rfl) ?_
  refine va_get (D := (dC, dI)) (ci := 2) (v := .ref aZ) (C := "RoomEchoes") (T := FT_R) (N := 9) hx hb hts (hi_ in_R) hown hK hP 0 rfl rfl 2 (by decide) (ht_ hts mw97) (fun _ h9 => h9) rfl d_R_requirePoint_27 ?_
  refine va_get (D := (dC, dI)) (ci := 0) (v := .int wZ) (C := "RoomEchoes$Axis") (T := FT_A) (N := 5) hx hb hts (hi_ in_A) hown hK hP 3 rfl rfl 0 (by decide) (ht_ hts mw77) (fun _ h9 => h9) rfl d_R_requirePoint_30 ?_
  by_cases q_33 : wi z 0 wZ
  rotate_left
  · have hPc := hP.sub (ws' := []) [] rfl
    exact tx_out (vx_runS (As := [.int z, .int 0, .int wZ]) (rest := []) ⟨hx, hb, hml, hown, hts⟩ (t_R_requireWithin l hst dC dI cI cL sa1 sa2 z 0 wZ q_33) (cwS 3 hts (gi_S mw140 mw138 mw139 mw29) rfl rfl rfl (by decide +kernel) ⟨Nat.le_of_ble_eq_true rfl, Nat.le_of_ble_eq_true rfl⟩) (tx_S hM hPc hT) rfl rfl hl.1 rfl (lv_room (Nat.le_of_ble_eq_true rfl)) d_R_requirePoint_33 ⟨Nat.le_of_ble_eq_true rfl, Nat.le_of_ble_eq_true rfl⟩) htab hlocks
  exact absurd (show wpt wX wY wZ x y z from ⟨q_9, q_21, q_33⟩) h
