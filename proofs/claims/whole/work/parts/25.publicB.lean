set_option maxHeartbeats 4000000 in
set_option maxRecDepth 100000 in
theorem c_R_source (l : Launch) (dC : Nat → ClassId) (dI : Nat → Nat → Nat) (cI cL : ClassId) (aR : Nat) (aX : Nat) (aY : Nat) (aZ : Nat) (aK : Nat) (aF : Nat) (aE : Nat) (aL : Nat) (od : Int32) (wd : Int32) (wX : Int32) (sX : Int32) (tX : Int32) (rX : Nat) (kX : Nat) (wY : Int32) (sY : Int32) (tY : Int32) (rY : Nat) (kY : Nat) (wZ : Int32) (sZ : Int32) (tZ : Int32) (rZ : Nat) (kZ : Nat) (x : Int32) (y : Int32) (z : Int32) (sz : Nat) (h : wpt wX wY wZ x y z) : Met l y_R_source w_R_source ({ frames := 2, cells := 0, slots := 0, locals := 45 }) (wr_P (dC, dI) cI cL [(aR, .inr (2, [.ref aX, .ref aY, .ref aZ, .ref aK, .ref aF, .ref aE, .ref aL, .int od, .int wd])), (aX, .inr (0, [.int wX, .int sX, .int tX, .ref rX, .ref kX])), (aY, .inr (0, [.int wY, .int sY, .int tY, .ref rY, .ref kY])), (aZ, .inr (0, [.int wZ, .int sZ, .int tZ, .ref rZ, .ref kZ]))] sz [.ref aR, .int x, .int y, .int z]) (wr_v (dC, dI) (va_A [(aR, .inr (2, [.ref aX, .ref aY, .ref aZ, .ref aK, .ref aF, .ref aE, .ref aL, .int od, .int wd])), (aX, .inr (0, [.int wX, .int sX, .int tX, .ref rX, .ref kX])), (aY, .inr (0, [.int wY, .int sY, .int tY, .ref rY, .ref kY])), (aZ, .inr (0, [.int wZ, .int sZ, .int tZ, .ref rZ, .ref kZ]))] sz) [(aR, .inr (2, [.ref aX, .ref aY, .ref aZ, .ref aK, .ref aF, .ref aE, .ref aL, .int 0, .int 0])), (aX, .inr (0, [.int wX, .int x, .int tX, .ref rX, .ref kX])), (aY, .inr (0, [.int wY, .int y, .int tY, .ref rY, .ref kY])), (aZ, .inr (0, [.int wZ, .int z, .int tZ, .ref rZ, .ref kZ]))]) 0 0 (va_A [(aR, .inr (2, [.ref aX, .ref aY, .ref aZ, .ref aK, .ref aF, .ref aE, .ref aL, .int od, .int wd])), (aX, .inr (0, [.int wX, .int sX, .int tX, .ref rX, .ref kX])), (aY, .inr (0, [.int wY, .int sY, .int tY, .ref rY, .ref kY])), (aZ, .inr (0, [.int wZ, .int sZ, .int tZ, .ref rZ, .ref kZ]))] sz) := by
  refine Met.ofW (cc := b_R_source) (maxL := 4) (ret := none) (by decide) rfl ?_
  intro p e s m args below meth c s₁ B hml hv
  obtain ⟨rfl, hsz, hP, hM, hD0⟩ := hv
  have hx := B.exec
  have hb := B.bytes
  have hr := B.returns
  have hts := atoms_spec (ws := w_R_source) B.pre
  have hown : s.vm.findClass "RoomEchoes" = some m.cls := findClass_of_methodNamed B.named
  have hlocks := B.notSynchronized
  have hK := hM.1
  subst hsz
  have hD := hD0.self (sz := s.heap.size)
  generalize hAe : va_A [(aR, .inr (2, [.ref aX, .ref aY, .ref aZ, .ref aK, .ref aF, .ref aE, .ref aL, .int od, .int wd])), (aX, .inr (0, [.int wX, .int sX, .int tX, .ref rX, .ref kX])), (aY, .inr (0, [.int wY, .int sY, .int tY, .ref rY, .ref kY])), (aZ, .inr (0, [.int wZ, .int sZ, .int tZ, .ref rZ, .ref kZ]))] s.heap.size = A at hD ⊢
  have hA : ∀ q : Nat, s.heap.size ≤ q → A q := fun q h => by rw [← hAe]; exact Or.inr h
  have hS : va_S A s.heap s.heap [] := va_S.rf
  have hP : va_P (dC, dI) vwCl [(aR, .inr (2, [.ref aX, .ref aY, .ref aZ, .ref aK, .ref aF, .ref aE, .ref aL, .int od, .int wd])), (aX, .inr (0, [.int wX, .int sX, .int tX, .ref rX, .ref kX])), (aY, .inr (0, [.int wY, .int sY, .int tY, .ref rY, .ref kY])), (aZ, .inr (0, [.int wZ, .int sZ, .int tZ, .ref rZ, .ref kZ]))] s.heap := hP
  have hl := lv_entry ([.ref aR, .int x, .int y, .int z]) (n := 4) (Nat.le_of_ble_eq_true rfl)
  rw [lg_entry_eq]
  generalize (lg_sl ([.ref aR, .int x, .int y, .int z]) ++ List.replicate (4 - (lg_sl ([.ref aR, .int x, .int y, .int z])).length) Slot.unset).toArray = ls at hl ⊢
  have hl : lv_has ls 4 [(0, .ref aR), (1, .int x), (2, .int y), (3, .int z)] := hl
  refine lv_aload_n hx hb d_R_source_0 rfl (lv_at hl 0 rfl) ?_
  refine lv_iload_n hx hb d_R_source_1 rfl (lv_at hl 1 rfl) ?_
  refine lv_iload_n hx hb d_R_source_2 rfl (lv_at hl 2 rfl) ?_
  refine lv_iload_n hx hb d_R_source_3 rfl (lv_at hl 3 rfl) ?_
  have hPc := hP.sub (ws' := [(aR, .inr (2, [.ref aX, .ref aY, .ref aZ, .ref aK, .ref aF, .ref aE, .ref aL, .int od, .int wd])), (aX, .inr (0, [.int wX, .int sX, .int tX, .ref rX, .ref kX])), (aY, .inr (0, [.int wY, .int sY, .int tY, .ref rY, .ref kY])), (aZ, .inr (0, [.int wZ, .int sZ, .int tZ, .ref rZ, .ref kZ]))]) [0, 1, 2, 3] rfl
  refine rd_cv (va_runV (As := [.int x, .int y, .int z]) (rest := []) ⟨hx, hb, hml, hown, hts⟩ (c_R_requirePoint l dC dI cI cL aR aX aY aZ aK aF aE aL od wd wX sX tX rX kX wY sY tY rY kY wZ sZ tZ rZ kZ x y z h) (cwV 3 hts (gi_V mw137 mw134 mw136 mw0 mw29) rfl rfl rfl (by decide +kernel) ⟨Nat.le_of_ble_eq_true rfl, Nat.le_of_ble_eq_true rfl⟩) (rd_V hM hPc rfl rfl rfl) rfl rfl hl.1 rfl (lv_room (Nat.le_of_ble_eq_true rfl)) d_R_source_4 ⟨Nat.le_of_ble_eq_true rfl, Nat.le_of_ble_eq_true rfl⟩) ?_
  refine lv_aload_n hx hb d_R_source_7 rfl (lv_at hl 0 rfl) ?_
  refine va_get (D := (dC, dI)) (ci := 2) (v := .ref aX) (C := "RoomEchoes") (T := FT_R) (N := 9) hx hb hts (hi_ in_R) hown hK hP 0 rfl rfl 0 (by decide) (ht_ hts mw95) (fun _ h9 => h9) rfl d_R_source_8 ?_
  refine lv_iload_n hx hb d_R_source_11 rfl (lv_at hl 1 rfl) ?_
  refine va_put (D := (dC, dI)) (ci := 0) (v := .int x) (ty := .int) (C := "RoomEchoes$Axis") (T := FT_A) (N := 5) hx hb hts (hi_ in_A) ty_A tyo_A nm_A hown hK hP hD hS 1 rfl rfl 1 (by decide) (ht_ hts mw78) (fun _ h9 => h9) rfl (by decide +kernel) rfl rfl (Nat.le_of_ble_eq_true rfl) d_R_source_12 (fun H locs hP hD hS => ?_)
  have hP : va_P (dC, dI) vwCl [(aR, .inr (2, [.ref aX, .ref aY, .ref aZ, .ref aK, .ref aF, .ref aE, .ref aL, .int od, .int wd])), (aX, .inr (0, [.int wX, .int x, .int tX, .ref rX, .ref kX])), (aY, .inr (0, [.int wY, .int sY, .int tY, .ref rY, .ref kY])), (aZ, .inr (0, [.int wZ, .int sZ, .int tZ, .ref rZ, .ref kZ]))] H := hP
  have hD : va_D A [(aR, .inr (2, [.ref aX, .ref aY, .ref aZ, .ref aK, .ref aF, .ref aE, .ref aL, .int od, .int wd])), (aX, .inr (0, [.int wX, .int x, .int tX, .ref rX, .ref kX])), (aY, .inr (0, [.int wY, .int sY, .int tY, .ref rY, .ref kY])), (aZ, .inr (0, [.int wZ, .int sZ, .int tZ, .ref rZ, .ref kZ]))] := hD
  refine lv_aload_n hx hb d_R_source_15 rfl (lv_at hl 0 rfl) ?_
  refine va_get (D := (dC, dI)) (ci := 2) (v := .ref aY) (C := "RoomEchoes") (T := FT_R) (N := 9) hx hb hts (hi_ in_R) hown hK hP 0 rfl rfl 1 (by decide) (ht_ hts mw96) (fun _ h9 => h9) rfl d_R_source_16 ?_
  refine lv_iload_n hx hb d_R_source_19 rfl (lv_at hl 2 rfl) ?_
  refine va_put (D := (dC, dI)) (ci := 0) (v := .int y) (ty := .int) (C := "RoomEchoes$Axis") (T := FT_A) (N := 5) hx hb hts (hi_ in_A) ty_A tyo_A nm_A hown hK hP hD hS 2 rfl rfl 1 (by decide) (ht_ hts mw78) (fun _ h9 => h9) rfl (by decide +kernel) rfl rfl (Nat.le_of_ble_eq_true rfl) d_R_source_20 (fun H locs hP hD hS => ?_)
  have hP : va_P (dC, dI) vwCl [(aR, .inr (2, [.ref aX, .ref aY, .ref aZ, .ref aK, .ref aF, .ref aE, .ref aL, .int od, .int wd])), (aX, .inr (0, [.int wX, .int x, .int tX, .ref rX, .ref kX])), (aY, .inr (0, [.int wY, .int y, .int tY, .ref rY, .ref kY])), (aZ, .inr (0, [.int wZ, .int sZ, .int tZ, .ref rZ, .ref kZ]))] H := hP
  have hD : va_D A [(aR, .inr (2, [.ref aX, .ref aY, .ref aZ, .ref aK, .ref aF, .ref aE, .ref aL, .int od, .int wd])), (aX, .inr (0, [.int wX, .int x, .int tX, .ref rX, .ref kX])), (aY, .inr (0, [.int wY, .int y, .int tY, .ref rY, .ref kY])), (aZ, .inr (0, [.int wZ, .int sZ, .int tZ, .ref rZ, .ref kZ]))] := hD
  refine lv_aload_n hx hb d_R_source_23 rfl (lv_at hl 0 rfl) ?_
  refine va_get (D := (dC, dI)) (ci := 2) (v := .ref aZ) (C := "RoomEchoes") (T := FT_R) (N := 9) hx hb hts (hi_ in_R) hown hK hP 0 rfl rfl 2 (by decide) (ht_ hts mw97) (fun _ h9 => h9) rfl d_R_source_24 ?_
  refine lv_iload_n hx hb d_R_source_27 rfl (lv_at hl 3 rfl) ?_
  refine va_put (D := (dC, dI)) (ci := 0) (v := .int z) (ty := .int) (C := "RoomEchoes$Axis") (T := FT_A) (N := 5) hx hb hts (hi_ in_A) ty_A tyo_A nm_A hown hK hP hD hS 3 rfl rfl 1 (by decide) (ht_ hts mw78) (fun _ h9 => h9) rfl (by decide +kernel) rfl rfl (Nat.le_of_ble_eq_true rfl) d_R_source_28 (fun H locs hP hD hS => ?_)
  have hP : va_P (dC, dI) vwCl [(aR, .inr (2, [.ref aX, .ref aY, .ref aZ, .ref aK, .ref aF, .ref aE, .ref aL, .int od, .int wd])), (aX, .inr (0, [.int wX, .int x, .int tX, .ref rX, .ref kX])), (aY, .inr (0, [.int wY, .int y, .int tY, .ref rY, .ref kY])), (aZ, .inr (0, [.int wZ, .int z, .int tZ, .ref rZ, .ref kZ]))] H := hP
  have hD : va_D A [(aR, .inr (2, [.ref aX, .ref aY, .ref aZ, .ref aK, .ref aF, .ref aE, .ref aL, .int od, .int wd])), (aX, .inr (0, [.int wX, .int x, .int tX, .ref rX, .ref kX])), (aY, .inr (0, [.int wY, .int y, .int tY, .ref rY, .ref kY])), (aZ, .inr (0, [.int wZ, .int z, .int tZ, .ref rZ, .ref kZ]))] := hD
  refine lv_aload_n hx hb d_R_source_31 rfl (lv_at hl 0 rfl) ?_
  have hPc := hP.sub (ws' := [(aR, .inr (2, [.ref aX, .ref aY, .ref aZ, .ref aK, .ref aF, .ref aE, .ref aL, .int od, .int wd]))]) [0] rfl
  have hDc := hD.sub (ws' := [(aR, .inr (2, [.ref aX, .ref aY, .ref aZ, .ref aK, .ref aF, .ref aE, .ref aL, .int od, .int wd]))]) [0] (by decide) rfl
  refine wr_cv (wr := [(aX, .inr (0, [.int wX, .int x, .int tX, .ref rX, .ref kX])), (aY, .inr (0, [.int wY, .int y, .int tY, .ref rY, .ref kY])), (aZ, .inr (0, [.int wZ, .int z, .int tZ, .ref rZ, .ref kZ]))]) (w1 := [(aR, .inr (2, [.ref aX, .ref aY, .ref aZ, .ref aK, .ref aF, .ref aE, .ref aL, .int 0, .int 0]))]) hP hD hS hA [0] [1, 2, 3] rfl rfl (by decide) (by decide) (va_runV (As := []) (rest := []) ⟨hx, hb, hml, hown, hts⟩ (c_R_forget l dC dI cI cL aR aX aY aZ aK aF aE aL od wd _) (cwV 0 hts (gi_V mw210 mw207 mw209 mw2 mw29) rfl rfl rfl (by decide +kernel) ⟨Nat.le_of_ble_eq_true rfl, Nat.le_of_ble_eq_true rfl⟩) (wr_V hM hPc hDc rfl rfl rfl) rfl rfl hl.1 rfl (lv_room (Nat.le_of_ble_eq_true rfl)) d_R_source_32 ⟨Nat.le_of_ble_eq_true rfl, Nat.le_of_ble_eq_true rfl⟩) (fun H locs hP hD hS => ?_)
  have hP := hP.sub (ws' := [(aR, .inr (2, [.ref aX, .ref aY, .ref aZ, .ref aK, .ref aF, .ref aE, .ref aL, .int 0, .int 0])), (aX, .inr (0, [.int wX, .int x, .int tX, .ref rX, .ref kX])), (aY, .inr (0, [.int wY, .int y, .int tY, .ref rY, .ref kY])), (aZ, .inr (0, [.int wZ, .int z, .int tZ, .ref rZ, .ref kZ]))]) [3, 0, 1, 2] rfl
  have hD := hD.sub (ws' := [(aR, .inr (2, [.ref aX, .ref aY, .ref aZ, .ref aK, .ref aF, .ref aE, .ref aL, .int 0, .int 0])), (aX, .inr (0, [.int wX, .int x, .int tX, .ref rX, .ref kX])), (aY, .inr (0, [.int wY, .int y, .int tY, .ref rY, .ref kY])), (aZ, .inr (0, [.int wZ, .int z, .int tZ, .ref rZ, .ref kZ]))]) [3, 0, 1, 2] (by decide) rfl
  have hP9 : va_P (dC, dI) vwCl [(aR, .inr (2, [.ref aX, .ref aY, .ref aZ, .ref aK, .ref aF, .ref aE, .ref aL, .int 0, .int 0])), (aX, .inr (0, [.int wX, .int x, .int tX, .ref rX, .ref kX])), (aY, .inr (0, [.int wY, .int y, .int tY, .ref rY, .ref kY])), (aZ, .inr (0, [.int wZ, .int z, .int tZ, .ref rZ, .ref kZ]))] H := hP
  have hD9 : va_D A [(aR, .inr (2, [.ref aX, .ref aY, .ref aZ, .ref aK, .ref aF, .ref aE, .ref aL, .int 0, .int 0])), (aX, .inr (0, [.int wX, .int x, .int tX, .ref rX, .ref kX])), (aY, .inr (0, [.int wY, .int y, .int tY, .ref rY, .ref kY])), (aZ, .inr (0, [.int wZ, .int z, .int tZ, .ref rZ, .ref kZ]))] := hD
  exact W.vret hx hb hr (fun t ht hW => ⟨⟨(), rfl, trivial, by rw [ht]; exact hP9, hD9⟩, hS.F ht⟩) hS.2.2 d_R_source_35

set_option maxHeartbeats 4000000 in
set_option maxRecDepth 100000 in
theorem c_R_listener (l : Launch) (dC : Nat → ClassId) (dI : Nat → Nat → Nat) (cI cL : ClassId) (aR : Nat) (aX : Nat) (aY : Nat) (aZ : Nat) (aK : Nat) (aF : Nat) (aE : Nat) (aL : Nat) (od : Int32) (wd : Int32) (wX : Int32) (sX : Int32) (tX : Int32) (rX : Nat) (kX : Nat) (wY : Int32) (sY : Int32) (tY : Int32) (rY : Nat) (kY : Nat) (wZ : Int32) (sZ : Int32) (tZ : Int32) (rZ : Nat) (kZ : Nat) (x : Int32) (y : Int32) (z : Int32) (sz : Nat) (h : wpt wX wY wZ x y z) : Met l y_R_listener w_R_listener ({ frames := 2, cells := 0, slots := 0, locals := 45 }) (wr_P (dC, dI) cI cL [(aR, .inr (2, [.ref aX, .ref aY, .ref aZ, .ref aK, .ref aF, .ref aE, .ref aL, .int od, .int wd])), (aX, .inr (0, [.int wX, .int sX, .int tX, .ref rX, .ref kX])), (aY, .inr (0, [.int wY, .int sY, .int tY, .ref rY, .ref kY])), (aZ, .inr (0, [.int wZ, .int sZ, .int tZ, .ref rZ, .ref kZ]))] sz [.ref aR, .int x, .int y, .int z]) (wr_v (dC, dI) (va_A [(aR, .inr (2, [.ref aX, .ref aY, .ref aZ, .ref aK, .ref aF, .ref aE, .ref aL, .int od, .int wd])), (aX, .inr (0, [.int wX, .int sX, .int tX, .ref rX, .ref kX])), (aY, .inr (0, [.int wY, .int sY, .int tY, .ref rY, .ref kY])), (aZ, .inr (0, [.int wZ, .int sZ, .int tZ, .ref rZ, .ref kZ]))] sz) [(aR, .inr (2, [.ref aX, .ref aY, .ref aZ, .ref aK, .ref aF, .ref aE, .ref aL, .int 0, .int 0])), (aX, .inr (0, [.int wX, .int sX, .int x, .ref rX, .ref kX])), (aY, .inr (0, [.int wY, .int sY, .int y, .ref rY, .ref kY])), (aZ, .inr (0, [.int wZ, .int sZ, .int z, .ref rZ, .ref kZ]))]) 0 0 (va_A [(aR, .inr (2, [.ref aX, .ref aY, .ref aZ, .ref aK, .ref aF, .ref aE, .ref aL, .int od, .int wd])), (aX, .inr (0, [.int wX, .int sX, .int tX, .ref rX, .ref kX])), (aY, .inr (0, [.int wY, .int sY, .int tY, .ref rY, .ref kY])), (aZ, .inr (0, [.int wZ, .int sZ, .int tZ, .ref rZ, .ref kZ]))] sz) := by
  refine Met.ofW (cc := b_R_listener) (maxL := 4) (ret := none) (by decide) rfl ?_
  intro p e s m args below meth c s₁ B hml hv
  obtain ⟨rfl, hsz, hP, hM, hD0⟩ := hv
  have hx := B.exec
  have hb := B.bytes
  have hr := B.returns
  have hts := atoms_spec (ws := w_R_listener) B.pre
  have hown : s.vm.findClass "RoomEchoes" = some m.cls := findClass_of_methodNamed B.named
  have hlocks := B.notSynchronized
  have hK := hM.1
  subst hsz
  have hD := hD0.self (sz := s.heap.size)
  generalize hAe : va_A [(aR, .inr (2, [.ref aX, .ref aY, .ref aZ, .ref aK, .ref aF, .ref aE, .ref aL, .int od, .int wd])), (aX, .inr (0, [.int wX, .int sX, .int tX, .ref rX, .ref kX])), (aY, .inr (0, [.int wY, .int sY, .int tY, .ref rY, .ref kY])), (aZ, .inr (0, [.int wZ, .int sZ, .int tZ, .ref rZ, .ref kZ]))] s.heap.size = A at hD ⊢
  have hA : ∀ q : Nat, s.heap.size ≤ q → A q := fun q h => by rw [← hAe]; exact Or.inr h
  have hS : va_S A s.heap s.heap [] := va_S.rf
  have hP : va_P (dC, dI) vwCl [(aR, .inr (2, [.ref aX, .ref aY, .ref aZ, .ref aK, .ref aF, .ref aE, .ref aL, .int od, .int wd])), (aX, .inr (0, [.int wX, .int sX, .int tX, .ref rX, .ref kX])), (aY, .inr (0, [.int wY, .int sY, .int tY, .ref rY, .ref kY])), (aZ, .inr (0, [.int wZ, .int sZ, .int tZ, .ref rZ, .ref kZ]))] s.heap := hP
  have hl := lv_entry ([.ref aR, .int x, .int y, .int z]) (n := 4) (Nat.le_of_ble_eq_true rfl)
  rw [lg_entry_eq]
  generalize (lg_sl ([.ref aR, .int x, .int y, .int z]) ++ List.replicate (4 - (lg_sl ([.ref aR, .int x, .int y, .int z])).length) Slot.unset).toArray = ls at hl ⊢
  have hl : lv_has ls 4 [(0, .ref aR), (1, .int x), (2, .int y), (3, .int z)] := hl
  refine lv_aload_n hx hb d_R_listener_0 rfl (lv_at hl 0 rfl) ?_
  refine lv_iload_n hx hb d_R_listener_1 rfl (lv_at hl 1 rfl) ?_
  refine lv_iload_n hx hb d_R_listener_2 rfl (lv_at hl 2 rfl) ?_
  refine lv_iload_n hx hb d_R_listener_3 rfl (lv_at hl 3 rfl) ?_
  have hPc := hP.sub (ws' := [(aR, .inr (2, [.ref aX, .ref aY, .ref aZ, .ref aK, .ref aF, .ref aE, .ref aL, .int od, .int wd])), (aX, .inr (0, [.int wX, .int sX, .int tX, .ref rX, .ref kX])), (aY, .inr (0, [.int wY, .int sY, .int tY, .ref rY, .ref kY])), (aZ, .inr (0, [.int wZ, .int sZ, .int tZ, .ref rZ, .ref kZ]))]) [0, 1, 2, 3] rfl
  refine rd_cv (va_runV (As := [.int x, .int y, .int z]) (rest := []) ⟨hx, hb, hml, hown, hts⟩ (c_R_requirePoint l dC dI cI cL aR aX aY aZ aK aF aE aL od wd wX sX tX rX kX wY sY tY rY kY wZ sZ tZ rZ kZ x y z h) (cwV 3 hts (gi_V mw137 mw134 mw136 mw0 mw29) rfl rfl rfl (by decide +kernel) ⟨Nat.le_of_ble_eq_true rfl, Nat.le_of_ble_eq_true rfl⟩) (rd_V hM hPc rfl rfl rfl) rfl rfl hl.1 rfl (lv_room (Nat.le_of_ble_eq_true rfl)) d_R_listener_4 ⟨Nat.le_of_ble_eq_true rfl, Nat.le_of_ble_eq_true rfl⟩) ?_
  refine lv_aload_n hx hb d_R_listener_7 rfl (lv_at hl 0 rfl) ?_
  refine va_get (D := (dC, dI)) (ci := 2) (v := .ref aX) (C := "RoomEchoes") (T := FT_R) (N := 9) hx hb hts (hi_ in_R) hown hK hP 0 rfl rfl 0 (by decide) (ht_ hts mw95) (fun _ h9 => h9) rfl d_R_listener_8 ?_
  refine lv_iload_n hx hb d_R_listener_11 rfl (lv_at hl 1 rfl) ?_
  refine va_put (D := (dC, dI)) (ci := 0) (v := .int x) (ty := .int) (C := "RoomEchoes$Axis") (T := FT_A) (N := 5) hx hb hts (hi_ in_A) ty_A tyo_A nm_A hown hK hP hD hS 1 rfl rfl 2 (by decide) (ht_ hts mw81) (fun _ h9 => h9) rfl (by decide +kernel) rfl rfl (Nat.le_of_ble_eq_true rfl) d_R_listener_12 (fun H locs hP hD hS => ?_)
  have hP : va_P (dC, dI) vwCl [(aR, .inr (2, [.ref aX, .ref aY, .ref aZ, .ref aK, .ref aF, .ref aE, .ref aL, .int od, .int wd])), (aX, .inr (0, [.int wX, .int sX, .int x, .ref rX, .ref kX])), (aY, .inr (0, [.int wY, .int sY, .int tY, .ref rY, .ref kY])), (aZ, .inr (0, [.int wZ, .int sZ, .int tZ, .ref rZ, .ref kZ]))] H := hP
  have hD : va_D A [(aR, .inr (2, [.ref aX, .ref aY, .ref aZ, .ref aK, .ref aF, .ref aE, .ref aL, .int od, .int wd])), (aX, .inr (0, [.int wX, .int sX, .int x, .ref rX, .ref kX])), (aY, .inr (0, [.int wY, .int sY, .int tY, .ref rY, .ref kY])), (aZ, .inr (0, [.int wZ, .int sZ, .int tZ, .ref rZ, .ref kZ]))] := hD
  refine lv_aload_n hx hb d_R_listener_15 rfl (lv_at hl 0 rfl) ?_
  refine va_get (D := (dC, dI)) (ci := 2) (v := .ref aY) (C := "RoomEchoes") (T := FT_R) (N := 9) hx hb hts (hi_ in_R) hown hK hP 0 rfl rfl 1 (by decide) (ht_ hts mw96) (fun _ h9 => h9) rfl d_R_listener_16 ?_
  refine lv_iload_n hx hb d_R_listener_19 rfl (lv_at hl 2 rfl) ?_
  refine va_put (D := (dC, dI)) (ci := 0) (v := .int y) (ty := .int) (C := "RoomEchoes$Axis") (T := FT_A) (N := 5) hx hb hts (hi_ in_A) ty_A tyo_A nm_A hown hK hP hD hS 2 rfl rfl 2 (by decide) (ht_ hts mw81) (fun _ h9 => h9) rfl (by decide +kernel) rfl rfl (Nat.le_of_ble_eq_true rfl) d_R_listener_20 (fun H locs hP hD hS => ?_)
  have hP : va_P (dC, dI) vwCl [(aR, .inr (2, [.ref aX, .ref aY, .ref aZ, .ref aK, .ref aF, .ref aE, .ref aL, .int od, .int wd])), (aX, .inr (0, [.int wX, .int sX, .int x, .ref rX, .ref kX])), (aY, .inr (0, [.int wY, .int sY, .int y, .ref rY, .ref kY])), (aZ, .inr (0, [.int wZ, .int sZ, .int tZ, .ref rZ, .ref kZ]))] H := hP
  have hD : va_D A [(aR, .inr (2, [.ref aX, .ref aY, .ref aZ, .ref aK, .ref aF, .ref aE, .ref aL, .int od, .int wd])), (aX, .inr (0, [.int wX, .int sX, .int x, .ref rX, .ref kX])), (aY, .inr (0, [.int wY, .int sY, .int y, .ref rY, .ref kY])), (aZ, .inr (0, [.int wZ, .int sZ, .int tZ, .ref rZ, .ref kZ]))] := hD
  refine lv_aload_n hx hb d_R_listener_23 rfl (lv_at hl 0 rfl) ?_
  refine va_get (D := (dC, dI)) (ci := 2) (v := .ref aZ) (C := "RoomEchoes") (T := FT_R) (N := 9) hx hb hts (hi_ in_R) hown hK hP 0 rfl rfl 2 (by decide) (ht_ hts mw97) (fun _ h9 => h9) rfl d_R_listener_24 ?_
  refine lv_iload_n hx hb d_R_listener_27 rfl (lv_at hl 3 rfl) ?_
  refine va_put (D := (dC, dI)) (ci := 0) (v := .int z) (ty := .int) (C := "RoomEchoes$Axis") (T := FT_A) (N := 5) hx hb hts (hi_ in_A) ty_A tyo_A nm_A hown hK hP hD hS 3 rfl rfl 2 (by decide) (ht_ hts mw81) (fun _ h9 => h9) rfl (by decide +kernel) rfl rfl (Nat.le_of_ble_eq_true rfl) d_R_listener_28 (fun H locs hP hD hS => ?_)
  have hP : va_P (dC, dI) vwCl [(aR, .inr (2, [.ref aX, .ref aY, .ref aZ, .ref aK, .ref aF, .ref aE, .ref aL, .int od, .int wd])), (aX, .inr (0, [.int wX, .int sX, .int x, .ref rX, .ref kX])), (aY, .inr (0, [.int wY, .int sY, .int y, .ref rY, .ref kY])), (aZ, .inr (0, [.int wZ, .int sZ, .int z, .ref rZ, .ref kZ]))] H := hP
  have hD : va_D A [(aR, .inr (2, [.ref aX, .ref aY, .ref aZ, .ref aK, .ref aF, .ref aE, .ref aL, .int od, .int wd])), (aX, .inr (0, [.int wX, .int sX, .int x, .ref rX, .ref kX])), (aY, .inr (0, [.int wY, .int sY, .int y, .ref rY, .ref kY])), (aZ, .inr (0, [.int wZ, .int sZ, .int z, .ref rZ, .ref kZ]))] := hD
  refine lv_aload_n hx hb d_R_listener_31 rfl (lv_at hl 0 rfl) ?_
  have hPc := hP.sub (ws' := [(aR, .inr (2, [.ref aX, .ref aY, .ref aZ, .ref aK, .ref aF, .ref aE, .ref aL, .int od, .int wd]))]) [0] rfl
  have hDc := hD.sub (ws' := [(aR, .inr (2, [.ref aX, .ref aY, .ref aZ, .ref aK, .ref aF, .ref aE, .ref aL, .int od, .int wd]))]) [0] (by decide) rfl
  refine wr_cv (wr := [(aX, .inr (0, [.int wX, .int sX, .int x, .ref rX, .ref kX])), (aY, .inr (0, [.int wY, .int sY, .int y, .ref rY, .ref kY])), (aZ, .inr (0, [.int wZ, .int sZ, .int z, .ref rZ, .ref kZ]))]) (w1 := [(aR, .inr (2, [.ref aX, .ref aY, .ref aZ, .ref aK, .ref aF, .ref aE, .ref aL, .int 0, .int 0]))]) hP hD hS hA [0] [1, 2, 3] rfl rfl (by decide) (by decide) (va_runV (As := []) (rest := []) ⟨hx, hb, hml, hown, hts⟩ (c_R_forget l dC dI cI cL aR aX aY aZ aK aF aE aL od wd _) (cwV 0 hts (gi_V mw210 mw207 mw209 mw2 mw29) rfl rfl rfl (by decide +kernel) ⟨Nat.le_of_ble_eq_true rfl, Nat.le_of_ble_eq_true rfl⟩) (wr_V hM hPc hDc rfl rfl rfl) rfl rfl hl.1 rfl (lv_room (Nat.le_of_ble_eq_true rfl)) d_R_listener_32 ⟨Nat.le_of_ble_eq_true rfl, Nat.le_of_ble_eq_true rfl⟩) (fun H locs hP hD hS => ?_)
  have hP := hP.sub (ws' := [(aR, .inr (2, [.ref aX, .ref aY, .ref aZ, .ref aK, .ref aF, .ref aE, .ref aL, .int 0, .int 0])), (aX, .inr (0, [.int wX, .int sX, .int x, .ref rX, .ref kX])), (aY, .inr (0, [.int wY, .int sY, .int y, .ref rY, .ref kY])), (aZ, .inr (0, [.int wZ, .int sZ, .int z, .ref rZ, .ref kZ]))]) [3, 0, 1, 2] rfl
  have hD := hD.sub (ws' := [(aR, .inr (2, [.ref aX, .ref aY, .ref aZ, .ref aK, .ref aF, .ref aE, .ref aL, .int 0, .int 0])), (aX, .inr (0, [.int wX, .int sX, .int x, .ref rX, .ref kX])), (aY, .inr (0, [.int wY, .int sY, .int y, .ref rY, .ref kY])), (aZ, .inr (0, [.int wZ, .int sZ, .int z, .ref rZ, .ref kZ]))]) [3, 0, 1, 2] (by decide) rfl
  have hP9 : va_P (dC, dI) vwCl [(aR, .inr (2, [.ref aX, .ref aY, .ref aZ, .ref aK, .ref aF, .ref aE, .ref aL, .int 0, .int 0])), (aX, .inr (0, [.int wX, .int sX, .int x, .ref rX, .ref kX])), (aY, .inr (0, [.int wY, .int sY, .int y, .ref rY, .ref kY])), (aZ, .inr (0, [.int wZ, .int sZ, .int z, .ref rZ, .ref kZ]))] H := hP
  have hD9 : va_D A [(aR, .inr (2, [.ref aX, .ref aY, .ref aZ, .ref aK, .ref aF, .ref aE, .ref aL, .int 0, .int 0])), (aX, .inr (0, [.int wX, .int sX, .int x, .ref rX, .ref kX])), (aY, .inr (0, [.int wY, .int sY, .int y, .ref rY, .ref kY])), (aZ, .inr (0, [.int wZ, .int sZ, .int z, .ref rZ, .ref kZ]))] := hD
  exact W.vret hx hb hr (fun t ht hW => ⟨⟨(), rfl, trivial, by rw [ht]; exact hP9, hD9⟩, hS.F ht⟩) hS.2.2 d_R_listener_35

set_option maxHeartbeats 4000000 in
set_option maxRecDepth 100000 in
theorem c_R_keeps (l : Launch) (dC : Nat → ClassId) (dI : Nat → Nat → Nat) (cI cL : ClassId) (aR : Nat) (aX : Nat) (aY : Nat) (aZ : Nat) (aK : Nat) (aF : Nat) (aE : Nat) (aL : Nat) (od : Int32) (wd : Int32) (kp : Nat → Int32) (wl : Nat) (th : Int32) (sz : Nat) (h1 : wl < 6) (h2 : wi th 0 1000) : Met l y_R_keeps w_R_keeps ({ frames := 1, cells := 0, slots := 0, locals := 22 }) (wr_P (dC, dI) cI cL [(aR, .inr (2, [.ref aX, .ref aY, .ref aZ, .ref aK, .ref aF, .ref aE, .ref aL, .int od, .int wd])), (aK, .inl (cI, 6, .inl kp))] sz [.ref aR, .int (nI wl), .int th]) (wr_i (kp wl) (dC, dI) (va_A [(aR, .inr (2, [.ref aX, .ref aY, .ref aZ, .ref aK, .ref aF, .ref aE, .ref aL, .int od, .int wd])), (aK, .inl (cI, 6, .inl kp))] sz) [(aR, .inr (2, [.ref aX, .ref aY, .ref aZ, .ref aK, .ref aF, .ref aE, .ref aL, .int od, .int 0])), (aK, .inl (cI, 6, .inl (upd kp wl th)))]) 0 0 (va_A [(aR, .inr (2, [.ref aX, .ref aY, .ref aZ, .ref aK, .ref aF, .ref aE, .ref aL, .int od, .int wd])), (aK, .inl (cI, 6, .inl kp))] sz) := by
  refine Met.ofW (cc := b_R_keeps) (maxL := 4) (ret := (some .int)) (by decide) rfl ?_
  intro p e s m args below meth c s₁ B hml hv
  obtain ⟨rfl, hsz, hP, hM, hD0⟩ := hv
  have hx := B.exec
  have hb := B.bytes
  have hr := B.returns
  have hts := atoms_spec (ws := w_R_keeps) B.pre
  have hown : s.vm.findClass "RoomEchoes" = some m.cls := findClass_of_methodNamed B.named
  have hlocks := B.notSynchronized
  have hK := hM.1
  subst hsz
  have hD := hD0.self (sz := s.heap.size)
  generalize hAe : va_A [(aR, .inr (2, [.ref aX, .ref aY, .ref aZ, .ref aK, .ref aF, .ref aE, .ref aL, .int od, .int wd])), (aK, .inl (cI, 6, .inl kp))] s.heap.size = A at hD ⊢
  have hA : ∀ q : Nat, s.heap.size ≤ q → A q := fun q h => by rw [← hAe]; exact Or.inr h
  have hS : va_S A s.heap s.heap [] := va_S.rf
  have hP : va_P (dC, dI) vwCl [(aR, .inr (2, [.ref aX, .ref aY, .ref aZ, .ref aK, .ref aF, .ref aE, .ref aL, .int od, .int wd])), (aK, .inl (cI, 6, .inl kp))] s.heap := hP
  have hl := lv_entry ([.ref aR, .int (nI wl), .int th]) (n := 4) (Nat.le_of_ble_eq_true rfl)
  rw [lg_entry_eq]
  generalize (lg_sl ([.ref aR, .int (nI wl), .int th]) ++ List.replicate (4 - (lg_sl ([.ref aR, .int (nI wl), .int th])).length) Slot.unset).toArray = ls at hl ⊢
  have hl : lv_has ls 4 [(0, .ref aR), (1, .int (nI wl)), (2, .int th)] := hl
  refine lv_iload_n hx hb d_R_keeps_0 rfl (lv_at hl 1 rfl) ?_
  refine lv_iconst (v := 0) hx hb d_R_keeps_1 (by decide) ?_
  refine lv_iconst (v := 5) hx hb d_R_keeps_2 (by decide) ?_
  refine rd_cv (va_runS (As := [.int (nI wl), .int 0, .int 5]) (rest := []) ⟨hx, hb, hml, hown, hts⟩ (c_R_requireWithin l (nI wl) 0 5 (wiN (k := wl) (hi := 5) (by omega) (by decide))) (cwS 3 hts (gi_S mw140 mw138 mw139 mw29) rfl rfl rfl (by decide +kernel) ⟨Nat.le_of_ble_eq_true rfl, Nat.le_of_ble_eq_true rfl⟩) st_S rfl rfl hl.1 rfl (lv_room (Nat.le_of_ble_eq_true rfl)) d_R_keeps_3 ⟨Nat.le_of_ble_eq_true rfl, Nat.le_of_ble_eq_true rfl⟩) ?_
  refine lv_iload_n hx hb d_R_keeps_6 rfl (lv_at hl 2 rfl) ?_
  refine lv_iconst (v := 0) hx hb d_R_keeps_7 (by decide) ?_
  refine lv_sipush (v := 1000) hx hb d_R_keeps_8 (by decide) ?_
  refine rd_cv (va_runS (As := [.int th, .int 0, .int 1000]) (rest := []) ⟨hx, hb, hml, hown, hts⟩ (c_R_requireWithin l th 0 1000 h2) (cwS 3 hts (gi_S mw140 mw138 mw139 mw29) rfl rfl rfl (by decide +kernel) ⟨Nat.le_of_ble_eq_true rfl, Nat.le_of_ble_eq_true rfl⟩) st_S rfl rfl hl.1 rfl (lv_room (Nat.le_of_ble_eq_true rfl)) d_R_keeps_11 ⟨Nat.le_of_ble_eq_true rfl, Nat.le_of_ble_eq_true rfl⟩) ?_
  refine lv_aload_n hx hb d_R_keeps_14 rfl (lv_at hl 0 rfl) ?_
  refine va_get (D := (dC, dI)) (ci := 2) (v := .ref aK) (C := "RoomEchoes") (T := FT_R) (N := 9) hx hb hts (hi_ in_R) hown hK hP 0 rfl rfl 3 (by decide) (ht_ hts mw98) (fun _ h9 => h9) rfl d_R_keeps_15 ?_
  refine lv_iload_n hx hb d_R_keeps_18 rfl (lv_at hl 1 rfl) ?_
  refine va_iald hx hb hK hP 1 0 rfl rfl (vp_in_nI (by omega) (by omega)) d_R_keeps_19 ?_
  refine tp_i (kp wl) (by rw [nI_clamp (by omega)]) ?_
  refine lv_istore_n (lv' := [(3, .int (kp wl)), (0, .ref aR), (1, .int (nI wl)), (2, .int th)]) hx hb d_R_keeps_20 rfl hl (by decide) rfl (fun ls hl => ?_)
  refine lv_aload_n hx hb d_R_keeps_21 rfl (lv_at hl 1 rfl) ?_
  refine va_get (D := (dC, dI)) (ci := 2) (v := .ref aK) (C := "RoomEchoes") (T := FT_R) (N := 9) hx hb hts (hi_ in_R) hown hK hP 0 rfl rfl 3 (by decide) (ht_ hts mw98) (fun _ h9 => h9) rfl d_R_keeps_22 ?_
  refine lv_iload_n hx hb d_R_keeps_25 rfl (lv_at hl 2 rfl) ?_
  refine lv_iload_n hx hb d_R_keeps_26 rfl (lv_at hl 3 rfl) ?_
  refine va_iast hx hb hK hP hD hS 1 0 rfl rfl (vp_in_nI (by omega) (by omega)) d_R_keeps_27 (fun H locs hP hD hS => ?_)
  rw [nI_clamp (n := wl) (by omega)] at hP hD
  have hP : va_P (dC, dI) vwCl [(aR, .inr (2, [.ref aX, .ref aY, .ref aZ, .ref aK, .ref aF, .ref aE, .ref aL, .int od, .int wd])), (aK, .inl (cI, 6, .inl (upd kp wl th)))] H := hP
  have hD : va_D A [(aR, .inr (2, [.ref aX, .ref aY, .ref aZ, .ref aK, .ref aF, .ref aE, .ref aL, .int od, .int wd])), (aK, .inl (cI, 6, .inl (upd kp wl th)))] := hD
  refine lv_aload_n hx hb d_R_keeps_28 rfl (lv_at hl 1 rfl) ?_
  refine lv_iconst (v := 0) hx hb d_R_keeps_29 (by decide) ?_
  refine va_put (D := (dC, dI)) (ci := 2) (v := .int 0) (ty := .boolean) (C := "RoomEchoes") (T := FT_R) (N := 9) hx hb hts (hi_ in_R) ty_R tyo_R nm_R hown hK hP hD hS 0 rfl rfl 8 (by decide) (ht_ hts mw103) (fun _ h9 => h9) rfl (by decide +kernel) rfl rfl (Nat.le_of_ble_eq_true rfl) d_R_keeps_30 (fun H locs hP hD hS => ?_)
  have hP : va_P (dC, dI) vwCl [(aR, .inr (2, [.ref aX, .ref aY, .ref aZ, .ref aK, .ref aF, .ref aE, .ref aL, .int od, .int 0])), (aK, .inl (cI, 6, .inl (upd kp wl th)))] H := hP
  have hD : va_D A [(aR, .inr (2, [.ref aX, .ref aY, .ref aZ, .ref aK, .ref aF, .ref aE, .ref aL, .int od, .int 0])), (aK, .inl (cI, 6, .inl (upd kp wl th)))] := hD
  refine lv_iload_n hx hb d_R_keeps_33 rfl (lv_at hl 0 rfl) ?_
  have hP9 : va_P (dC, dI) vwCl [(aR, .inr (2, [.ref aX, .ref aY, .ref aZ, .ref aK, .ref aF, .ref aE, .ref aL, .int od, .int 0])), (aK, .inl (cI, 6, .inl (upd kp wl th)))] H := hP
  have hD9 : va_D A [(aR, .inr (2, [.ref aX, .ref aY, .ref aZ, .ref aK, .ref aF, .ref aE, .ref aL, .int od, .int 0])), (aK, .inl (cI, 6, .inl (upd kp wl th)))] := hD
  exact W.iret (v := kp wl) hx hb hr (fun t ht hW => ⟨⟨_, (), rfl, rfl, by rw [ht]; exact hP9, hD9⟩, hS.F ht⟩) hS.2.2 d_R_keeps_34

set_option maxHeartbeats 4000000 in
set_option maxRecDepth 100000 in
theorem t_R_source (l : Launch) (hst : l.stackTraces = false) (dC : Nat → ClassId) (dI : Nat → Nat → Nat) (cI cL : ClassId) (sa1 sa2 : Nat) (aR : Nat) (aX : Nat) (aY : Nat) (aZ : Nat) (aK : Nat) (aF : Nat) (aE : Nat) (aL : Nat) (od : Int32) (wd : Int32) (wX : Int32) (sX : Int32) (tX : Int32) (rX : Nat) (kX : Nat) (wY : Int32) (sY : Int32) (tY : Int32) (rY : Nat) (kY : Nat) (wZ : Int32) (sZ : Int32) (tZ : Int32) (rZ : Nat) (kZ : Nat) (x : Int32) (y : Int32) (z : Int32) (h : ¬ (wpt wX wY wZ x y z)) : TX l y_R_source w_R_source ({ frames := 8, cells := 1, slots := 6, locals := 127 }) (tx_P (dC, dI) cI cL [(aR, .inr (2, [.ref aX, .ref aY, .ref aZ, .ref aK, .ref aF, .ref aE, .ref aL, .int od, .int wd])), (aX, .inr (0, [.int wX, .int sX, .int tX, .ref rX, .ref kX])), (aY, .inr (0, [.int wY, .int sY, .int tY, .ref rY, .ref kY])), (aZ, .inr (0, [.int wZ, .int sZ, .int tZ, .ref rZ, .ref kZ]))] sa1 sa2 [.ref aR, .int x, .int y, .int z]) := by
  refine vx_ofW (cc := b_R_source) (maxL := 4) (ret := none) (by decide) rfl ?_
  intro p e s m args below meth c s₁ B hml htab hv
  obtain ⟨rfl, hP, hM, hT⟩ := hv
  have hx := B.exec
  have hb := B.bytes
  have hr := B.returns
  have hts := atoms_spec (ws := w_R_source) B.pre
  have hown : s.vm.findClass "RoomEchoes" = some m.cls := findClass_of_methodNamed B.named
  have hlocks := B.notSynchronized
  have hK := hM.1
  have hl := lv_entry ([.ref aR, .int x, .int y, .int z]) (n := 4) (Nat.le_of_ble_eq_true rfl)
  rw [lg_entry_eq]
  generalize (lg_sl ([.ref aR, .int x, .int y, .int z]) ++ List.replicate (4 - (lg_sl ([.ref aR, .int x, .int y, .int z])).length) Slot.unset).toArray = ls at hl ⊢
  have hl : lv_has ls 4 [(0, .ref aR), (1, .int x), (2, .int y), (3, .int z)] := hl
  refine lv_aload_n hx hb d_R_source_0 rfl (lv_at hl 0 rfl) ?_
  refine lv_iload_n hx hb d_R_source_1 rfl (lv_at hl 1 rfl) ?_
  refine lv_iload_n hx hb d_R_source_2 rfl (lv_at hl 2 rfl) ?_
  refine lv_iload_n hx hb d_R_source_3 rfl (lv_at hl 3 rfl) ?_
  by_cases q_4 : wpt wX wY wZ x y z
  rotate_left
  · have hPc := hP.sub (ws' := [(aR, .inr (2, [.ref aX, .ref aY, .ref aZ, .ref aK, .ref aF, .ref aE, .ref aL, .int od, .int wd])), (aX, .inr (0, [.int wX, .int sX, .int tX, .ref rX, .ref kX])), (aY, .inr (0, [.int wY, .int sY, .int tY, .ref rY, .ref kY])), (aZ, .inr (0, [.int wZ, .int sZ, .int tZ, .ref rZ, .ref kZ]))]) [0, 1, 2, 3] rfl
    exact tx_out (vx_runV (As := [.int x, .int y, .int z]) (rest := []) ⟨hx, hb, hml, hown, hts⟩ (t_R_requirePoint l hst dC dI cI cL sa1 sa2 aR aX aY aZ aK aF aE aL od wd wX sX tX rX kX wY sY tY rY kY wZ sZ tZ rZ kZ x y z q_4) (cwV 3 hts (gi_V mw137 mw134 mw136 mw0 mw29) rfl rfl rfl (by decide +kernel) ⟨Nat.le_of_ble_eq_true rfl, Nat.le_of_ble_eq_true rfl⟩) (tx_V hM hPc hT rfl rfl rfl) rfl rfl hl.1 rfl (lv_room (Nat.le_of_ble_eq_true rfl)) d_R_source_4 ⟨Nat.le_of_ble_eq_true rfl, Nat.le_of_ble_eq_true rfl⟩) htab hlocks
  exact absurd (show wpt wX wY wZ x y z from q_4) h

set_option maxHeartbeats 4000000 in
set_option maxRecDepth 100000 in
theorem t_R_listener (l : Launch) (hst : l.stackTraces = false) (dC : Nat → ClassId) (dI : Nat → Nat → Nat) (cI cL : ClassId) (sa1 sa2 : Nat) (aR : Nat) (aX : Nat) (aY : Nat) (aZ : Nat) (aK : Nat) (aF : Nat) (aE : Nat) (aL : Nat) (od : Int32) (wd : Int32) (wX : Int32) (sX : Int32) (tX : Int32) (rX : Nat) (kX : Nat) (wY : Int32) (sY : Int32) (tY : Int32) (rY : Nat) (kY : Nat) (wZ : Int32) (sZ : Int32) (tZ : Int32) (rZ : Nat) (kZ : Nat) (x : Int32) (y : Int32) (z : Int32) (h : ¬ (wpt wX wY wZ x y z)) : TX l y_R_listener w_R_listener ({ frames := 8, cells := 1, slots := 6, locals := 127 }) (tx_P (dC, dI) cI cL [(aR, .inr (2, [.ref aX, .ref aY, .ref aZ, .ref aK, .ref aF, .ref aE, .ref aL, .int od, .int wd])), (aX, .inr (0, [.int wX, .int sX, .int tX, .ref rX, .ref kX])), (aY, .inr (0, [.int wY, .int sY, .int tY, .ref rY, .ref kY])), (aZ, .inr (0, [.int wZ, .int sZ, .int tZ, .ref rZ, .ref kZ]))] sa1 sa2 [.ref aR, .int x, .int y, .int z]) := by
  refine vx_ofW (cc := b_R_listener) (maxL := 4) (ret := none) (by decide) rfl ?_
  intro p e s m args below meth c s₁ B hml htab hv
  obtain ⟨rfl, hP, hM, hT⟩ := hv
  have hx := B.exec
  have hb := B.bytes
  have hr := B.returns
  have hts := atoms_spec (ws := w_R_listener) B.pre
  have hown : s.vm.findClass "RoomEchoes" = some m.cls := findClass_of_methodNamed B.named
  have hlocks := B.notSynchronized
  have hK := hM.1
  have hl := lv_entry ([.ref aR, .int x, .int y, .int z]) (n := 4) (Nat.le_of_ble_eq_true rfl)
  rw [lg_entry_eq]
  generalize (lg_sl ([.ref aR, .int x, .int y, .int z]) ++ List.replicate (4 - (lg_sl ([.ref aR, .int x, .int y, .int z])).length) Slot.unset).toArray = ls at hl ⊢
  have hl : lv_has ls 4 [(0, .ref aR), (1, .int x), (2, .int y), (3, .int z)] := hl
  refine lv_aload_n hx hb d_R_listener_0 rfl (lv_at hl 0 rfl) ?_
  refine lv_iload_n hx hb d_R_listener_1 rfl (lv_at hl 1 rfl) ?_
  refine lv_iload_n hx hb d_R_listener_2 rfl (lv_at hl 2 rfl) ?_
  refine lv_iload_n hx hb d_R_listener_3 rfl (lv_at hl 3 rfl) ?_
  by_cases q_4 : wpt wX wY wZ x y z
  rotate_left
  · have hPc := hP.sub (ws' := [(aR, .inr (2, [.ref aX, .ref aY, .ref aZ, .ref aK, .ref aF, .ref aE, .ref aL, .int od, .int wd])), (aX, .inr (0, [.int wX, .int sX, .int tX, .ref rX, .ref kX])), (aY, .inr (0, [.int wY, .int sY, .int tY, .ref rY, .ref kY])), (aZ, .inr (0, [.int wZ, .int sZ, .int tZ, .ref rZ, .ref kZ]))]) [0, 1, 2, 3] rfl
    exact tx_out (vx_runV (As := [.int x, .int y, .int z]) (rest := []) ⟨hx, hb, hml, hown, hts⟩ (t_R_requirePoint l hst dC dI cI cL sa1 sa2 aR aX aY aZ aK aF aE aL od wd wX sX tX rX kX wY sY tY rY kY wZ sZ tZ rZ kZ x y z q_4) (cwV 3 hts (gi_V mw137 mw134 mw136 mw0 mw29) rfl rfl rfl (by decide +kernel) ⟨Nat.le_of_ble_eq_true rfl, Nat.le_of_ble_eq_true rfl⟩) (tx_V hM hPc hT rfl rfl rfl) rfl rfl hl.1 rfl (lv_room (Nat.le_of_ble_eq_true rfl)) d_R_listener_4 ⟨Nat.le_of_ble_eq_true rfl, Nat.le_of_ble_eq_true rfl⟩) htab hlocks
  exact absurd (show wpt wX wY wZ x y z from q_4) h

set_option maxHeartbeats 4000000 in
set_option maxRecDepth 100000 in
theorem t_R_keeps (l : Launch) (hst : l.stackTraces = false) (dC : Nat → ClassId) (dI : Nat → Nat → Nat) (cI cL : ClassId) (sa1 sa2 : Nat) (aR : Nat) (aX : Nat) (aY : Nat) (aZ : Nat) (aK : Nat) (aF : Nat) (aE : Nat) (aL : Nat) (od : Int32) (wd : Int32) (wl : Int32) (th : Int32) (h : ¬ (wi wl 0 5 ∧ wi th 0 1000)) : TX l y_R_keeps w_R_keeps ({ frames := 7, cells := 1, slots := 6, locals := 104 }) (tx_P (dC, dI) cI cL [(aR, .inr (2, [.ref aX, .ref aY, .ref aZ, .ref aK, .ref aF, .ref aE, .ref aL, .int od, .int wd]))] sa1 sa2 [.ref aR, .int wl, .int th]) := by
  refine vx_ofW (cc := b_R_keeps) (maxL := 4) (ret := (some .int)) (by decide) rfl ?_
  intro p e s m args below meth c s₁ B hml htab hv
  obtain ⟨rfl, hP, hM, hT⟩ := hv
  have hx := B.exec
  have hb := B.bytes
  have hr := B.returns
  have hts := atoms_spec (ws := w_R_keeps) B.pre
  have hown : s.vm.findClass "RoomEchoes" = some m.cls := findClass_of_methodNamed B.named
  have hlocks := B.notSynchronized
  have hK := hM.1
  have hl := lv_entry ([.ref aR, .int wl, .int th]) (n := 4) (Nat.le_of_ble_eq_true rfl)
  rw [lg_entry_eq]
  generalize (lg_sl ([.ref aR, .int wl, .int th]) ++ List.replicate (4 - (lg_sl ([.ref aR, .int wl, .int th])).length) Slot.unset).toArray = ls at hl ⊢
  have hl : lv_has ls 4 [(0, .ref aR), (1, .int wl), (2, .int th)] := hl
  refine lv_iload_n hx hb d_R_keeps_0 rfl (lv_at hl 1 rfl) ?_
  refine lv_iconst (v := 0) hx hb d_R_keeps_1 (by decide) ?_
  refine lv_iconst (v := 5) hx hb d_R_keeps_2 (by decide) ?_
  by_cases q_3 : wi wl 0 5
  rotate_left
  · have hPc := hP.sub (ws' := []) [] rfl
    exact tx_out (vx_runS (As := [.int wl, .int 0, .int 5]) (rest := []) ⟨hx, hb, hml, hown, hts⟩ (t_R_requireWithin l hst dC dI cI cL sa1 sa2 wl 0 5 q_3) (cwS 3 hts (gi_S mw140 mw138 mw139 mw29) rfl rfl rfl (by decide +kernel) ⟨Nat.le_of_ble_eq_true rfl, Nat.le_of_ble_eq_true rfl⟩) (tx_S hM hPc hT) rfl rfl hl.1 rfl (lv_room (Nat.le_of_ble_eq_true rfl)) d_R_keeps_3 ⟨Nat.le_of_ble_eq_true rfl, Nat.le_of_ble_eq_true rfl⟩) htab hlocks
  refine rd_cv (va_runS (As := [.int wl, .int 0, .int 5]) (rest := []) ⟨hx, hb, hml, hown, hts⟩ (c_R_requireWithin l wl 0 5 q_3) (cwS 3 hts (gi_S mw140 mw138 mw139 mw29) rfl rfl rfl (by decide +kernel) ⟨Nat.le_of_ble_eq_true rfl, Nat.le_of_ble_eq_true rfl⟩) st_S rfl rfl hl.1 rfl (lv_room (Nat.le_of_ble_eq_true rfl)) d_R_keeps_3 ⟨Nat.le_of_ble_eq_true rfl, Nat.le_of_ble_eq_true rfl⟩) ?_
  refine lv_iload_n hx hb d_R_keeps_6 rfl (lv_at hl 2 rfl) ?_
  refine lv_iconst (v := 0) hx hb d_R_keeps_7 (by decide) ?_
  refine lv_sipush (v := 1000) hx hb d_R_keeps_8 (by decide) ?_
  by_cases q_11 : wi th 0 1000
  rotate_left
  · have hPc := hP.sub (ws' := []) [] rfl
    exact tx_out (vx_runS (As := [.int th, .int 0, .int 1000]) (rest := []) ⟨hx, hb, hml, hown, hts⟩ (t_R_requireWithin l hst dC dI cI cL sa1 sa2 th 0 1000 q_11) (cwS 3 hts (gi_S mw140 mw138 mw139 mw29) rfl rfl rfl (by decide +kernel) ⟨Nat.le_of_ble_eq_true rfl, Nat.le_of_ble_eq_true rfl⟩) (tx_S hM hPc hT) rfl rfl hl.1 rfl (lv_room (Nat.le_of_ble_eq_true rfl)) d_R_keeps_11 ⟨Nat.le_of_ble_eq_true rfl, Nat.le_of_ble_eq_true rfl⟩) htab hlocks
  exact absurd (show wi wl 0 5 ∧ wi th 0 1000 from ⟨q_3, q_11⟩) h

set_option maxHeartbeats 4000000 in
set_option maxRecDepth 100000 in
theorem t_R_image (l : Launch) (hst : l.stackTraces = false) (dC : Nat → ClassId) (dI : Nat → Nat → Nat) (cI cL : ClassId) (sa1 sa2 : Nat) (aR : Nat) (aX : Nat) (aY : Nat) (aZ : Nat) (aK : Nat) (aF : Nat) (aE : Nat) (aL : Nat) (od : Int32) (wd : Int32) (a : Int32) (b : Int32) (c9 : Int32) (what : Int32) (h : ¬ (wn3 a b c9 ∧ wi what 0 3)) : TX l y_R_image w_R_image ({ frames := 8, cells := 1, slots := 6, locals := 126 }) (tx_P (dC, dI) cI cL [(aR, .inr (2, [.ref aX, .ref aY, .ref aZ, .ref aK, .ref aF, .ref aE, .ref aL, .int od, .int wd]))] sa1 sa2 [.ref aR, .int a, .int b, .int c9, .int what]) := by
  refine vx_ofW (cc := b_R_image) (maxL := 5) (ret := (some .long)) (by decide) rfl ?_
  intro p e s m args below meth c s₁ B hml htab hv
  obtain ⟨rfl, hP, hM, hT⟩ := hv
  have hx := B.exec
  have hb := B.bytes
  have hr := B.returns
  have hts := atoms_spec (ws := w_R_image) B.pre
  have hown : s.vm.findClass "RoomEchoes" = some m.cls := findClass_of_methodNamed B.named
  have hlocks := B.notSynchronized
  have hK := hM.1
  have hl := lv_entry ([.ref aR, .int a, .int b, .int c9, .int what]) (n := 5) (Nat.le_of_ble_eq_true rfl)
  rw [lg_entry_eq]
  generalize (lg_sl ([.ref aR, .int a, .int b, .int c9, .int what]) ++ List.replicate (5 - (lg_sl ([.ref aR, .int a, .int b, .int c9, .int what])).length) Slot.unset).toArray = ls at hl ⊢
  have hl : lv_has ls 5 [(0, .ref aR), (1, .int a), (2, .int b), (3, .int c9), (4, .int what)] := hl
  refine lv_iload_n hx hb d_R_image_0 rfl (lv_at hl 1 rfl) ?_
  refine lv_iload_n hx hb d_R_image_1 rfl (lv_at hl 2 rfl) ?_
  refine lv_iload_n hx hb d_R_image_2 rfl (lv_at hl 3 rfl) ?_
  by_cases q_3 : wn3 a b c9
  rotate_left
  · have hPc := hP.sub (ws' := []) [] rfl
    exact tx_out (vx_runS (As := [.int a, .int b, .int c9]) (rest := []) ⟨hx, hb, hml, hown, hts⟩ (t_R_requireNumbers l hst dC dI cI cL sa1 sa2 a b c9 q_3) (cwS 3 hts (gi_S mw234 mw232 mw233 mw29) rfl rfl rfl (by decide +kernel) ⟨Nat.le_of_ble_eq_true rfl, Nat.le_of_ble_eq_true rfl⟩) (tx_S hM hPc hT) rfl rfl hl.1 rfl (lv_room (Nat.le_of_ble_eq_true rfl)) d_R_image_3 ⟨Nat.le_of_ble_eq_true rfl, Nat.le_of_ble_eq_true rfl⟩) htab hlocks
  refine rd_cv (va_runS (As := [.int a, .int b, .int c9]) (rest := []) ⟨hx, hb, hml, hown, hts⟩ (c_R_requireNumbers l a b c9 q_3) (cwS 3 hts (gi_S mw234 mw232 mw233 mw29) rfl rfl rfl (by decide +kernel) ⟨Nat.le_of_ble_eq_true rfl, Nat.le_of_ble_eq_true rfl⟩) st_S rfl rfl hl.1 rfl (lv_room (Nat.le_of_ble_eq_true rfl)) d_R_image_3 ⟨Nat.le_of_ble_eq_true rfl, Nat.le_of_ble_eq_true rfl⟩) ?_
  refine lv_iload hx hb d_R_image_6 (lv_at hl 4 rfl) ?_
  refine lv_iconst (v := 0) hx hb d_R_image_8 (by decide) ?_
  refine lv_iconst (v := 3) hx hb d_R_image_9 (by decide) ?_
  by_cases q_10 : wi what 0 3
  rotate_left
  · have hPc := hP.sub (ws' := []) [] rfl
    exact tx_out (vx_runS (As := [.int what, .int 0, .int 3]) (rest := []) ⟨hx, hb, hml, hown, hts⟩ (t_R_requireWithin l hst dC dI cI cL sa1 sa2 what 0 3 q_10) (cwS 3 hts (gi_S mw140 mw138 mw139 mw29) rfl rfl rfl (by decide +kernel) ⟨Nat.le_of_ble_eq_true rfl, Nat.le_of_ble_eq_true rfl⟩) (tx_S hM hPc hT) rfl rfl hl.1 rfl (lv_room (Nat.le_of_ble_eq_true rfl)) d_R_image_10 ⟨Nat.le_of_ble_eq_true rfl, Nat.le_of_ble_eq_true rfl⟩) htab hlocks
  exact absurd (show wn3 a b c9 ∧ wi what 0 3 from ⟨q_3, q_10⟩) h

set_option maxHeartbeats 4000000 in
set_option maxRecDepth 100000 in
theorem t_R_echo (l : Launch) (hst : l.stackTraces = false) (dC : Nat → ClassId) (dI : Nat → Nat → Nat) (cI cL : ClassId) (sa1 sa2 : Nat) (aR : Nat) (aX : Nat) (aY : Nat) (aZ : Nat) (aK : Nat) (aF : Nat) (aE : Nat) (aL : Nat) (od : Int32) (wd : Int32) (k : Int32) (what : Int32) (h : ¬ (wi k 0 499 ∧ wi what 0 6)) : TX l y_R_echo w_R_echo ({ frames := 7, cells := 1, slots := 6, locals := 104 }) (tx_P (dC, dI) cI cL [(aR, .inr (2, [.ref aX, .ref aY, .ref aZ, .ref aK, .ref aF, .ref aE, .ref aL, .int od, .int wd]))] sa1 sa2 [.ref aR, .int k, .int what]) := by
  refine vx_ofW (cc := b_R_echo) (maxL := 8) (ret := (some .long)) (by decide) rfl ?_
  intro p e s m args below meth c s₁ B hml htab hv
  obtain ⟨rfl, hP, hM, hT⟩ := hv
  have hx := B.exec
  have hb := B.bytes
  have hr := B.returns
  have hts := atoms_spec (ws := w_R_echo) B.pre
  have hown : s.vm.findClass "RoomEchoes" = some m.cls := findClass_of_methodNamed B.named
  have hlocks := B.notSynchronized
  have hK := hM.1
  have hl := lv_entry ([.ref aR, .int k, .int what]) (n := 8) (Nat.le_of_ble_eq_true rfl)
  rw [lg_entry_eq]
  generalize (lg_sl ([.ref aR, .int k, .int what]) ++ List.replicate (8 - (lg_sl ([.ref aR, .int k, .int what])).length) Slot.unset).toArray = ls at hl ⊢
  have hl : lv_has ls 8 [(0, .ref aR), (1, .int k), (2, .int what)] := hl
  refine lv_iload_n hx hb d_R_echo_0 rfl (lv_at hl 1 rfl) ?_
  refine lv_iconst (v := 0) hx hb d_R_echo_1 (by decide) ?_
  refine lv_sipush (v := 499) hx hb d_R_echo_2 (by decide) ?_
  by_cases q_5 : wi k 0 499
  rotate_left
  · have hPc := hP.sub (ws' := []) [] rfl
    exact tx_out (vx_runS (As := [.int k, .int 0, .int 499]) (rest := []) ⟨hx, hb, hml, hown, hts⟩ (t_R_requireWithin l hst dC dI cI cL sa1 sa2 k 0 499 q_5) (cwS 3 hts (gi_S mw140 mw138 mw139 mw29) rfl rfl rfl (by decide +kernel) ⟨Nat.le_of_ble_eq_true rfl, Nat.le_of_ble_eq_true rfl⟩) (tx_S hM hPc hT) rfl rfl hl.1 rfl (lv_room (Nat.le_of_ble_eq_true rfl)) d_R_echo_5 ⟨Nat.le_of_ble_eq_true rfl, Nat.le_of_ble_eq_true rfl⟩) htab hlocks
  refine rd_cv (va_runS (As := [.int k, .int 0, .int 499]) (rest := []) ⟨hx, hb, hml, hown, hts⟩ (c_R_requireWithin l k 0 499 q_5) (cwS 3 hts (gi_S mw140 mw138 mw139 mw29) rfl rfl rfl (by decide +kernel) ⟨Nat.le_of_ble_eq_true rfl, Nat.le_of_ble_eq_true rfl⟩) st_S rfl rfl hl.1 rfl (lv_room (Nat.le_of_ble_eq_true rfl)) d_R_echo_5 ⟨Nat.le_of_ble_eq_true rfl, Nat.le_of_ble_eq_true rfl⟩) ?_
  refine lv_iload_n hx hb d_R_echo_8 rfl (lv_at hl 2 rfl) ?_
  refine lv_iconst (v := 0) hx hb d_R_echo_9 (by decide) ?_
  refine lv_bipush (v := 6) hx hb d_R_echo_10 (by decide) ?_
  by_cases q_12 : wi what 0 6
  rotate_left
  · have hPc := hP.sub (ws' := []) [] rfl
    exact tx_out (vx_runS (As := [.int what, .int 0, .int 6]) (rest := []) ⟨hx, hb, hml, hown, hts⟩ (t_R_requireWithin l hst dC dI cI cL sa1 sa2 what 0 6 q_12) (cwS 3 hts (gi_S mw140 mw138 mw139 mw29) rfl rfl rfl (by decide +kernel) ⟨Nat.le_of_ble_eq_true rfl, Nat.le_of_ble_eq_true rfl⟩) (tx_S hM hPc hT) rfl rfl hl.1 rfl (lv_room (Nat.le_of_ble_eq_true rfl)) d_R_echo_12 ⟨Nat.le_of_ble_eq_true rfl, Nat.le_of_ble_eq_true rfl⟩) htab hlocks
  exact absurd (show wi k 0 499 ∧ wi what 0 6 from ⟨q_5, q_12⟩) h

set_option maxHeartbeats 4000000 in
set_option maxRecDepth 100000 in
theorem t_R_place (l : Launch) (hst : l.stackTraces = false) (dC : Nat → ClassId) (dI : Nat → Nat → Nat) (cI cL : ClassId) (sa1 sa2 : Nat) (aR : Nat) (aX : Nat) (aY : Nat) (aZ : Nat) (aK : Nat) (aF : Nat) (aE : Nat) (aL : Nat) (od : Int32) (wd : Int32) (a : Int32) (b : Int32) (c9 : Int32) (h : ¬ (wn3 a b c9)) : TX l y_R_place w_R_place ({ frames := 8, cells := 1, slots := 6, locals := 126 }) (tx_P (dC, dI) cI cL [(aR, .inr (2, [.ref aX, .ref aY, .ref aZ, .ref aK, .ref aF, .ref aE, .ref aL, .int od, .int wd]))] sa1 sa2 [.ref aR, .int a, .int b, .int c9]) := by
  refine vx_ofW (cc := b_R_place) (maxL := 7) (ret := (some .int)) (by decide) rfl ?_
  intro p e s m args below meth c s₁ B hml htab hv
  obtain ⟨rfl, hP, hM, hT⟩ := hv
  have hx := B.exec
  have hb := B.bytes
  have hr := B.returns
  have hts := atoms_spec (ws := w_R_place) B.pre
  have hown : s.vm.findClass "RoomEchoes" = some m.cls := findClass_of_methodNamed B.named
  have hlocks := B.notSynchronized
  have hK := hM.1
  have hl := lv_entry ([.ref aR, .int a, .int b, .int c9]) (n := 7) (Nat.le_of_ble_eq_true rfl)
  rw [lg_entry_eq]
  generalize (lg_sl ([.ref aR, .int a, .int b, .int c9]) ++ List.replicate (7 - (lg_sl ([.ref aR, .int a, .int b, .int c9])).length) Slot.unset).toArray = ls at hl ⊢
  have hl : lv_has ls 7 [(0, .ref aR), (1, .int a), (2, .int b), (3, .int c9)] := hl
  refine lv_iload_n hx hb d_R_place_0 rfl (lv_at hl 1 rfl) ?_
  refine lv_iload_n hx hb d_R_place_1 rfl (lv_at hl 2 rfl) ?_
  refine lv_iload_n hx hb d_R_place_2 rfl (lv_at hl 3 rfl) ?_
  by_cases q_3 : wn3 a b c9
  rotate_left
  · have hPc := hP.sub (ws' := []) [] rfl
    exact tx_out (vx_runS (As := [.int a, .int b, .int c9]) (rest := []) ⟨hx, hb, hml, hown, hts⟩ (t_R_requireNumbers l hst dC dI cI cL sa1 sa2 a b c9 q_3) (cwS 3 hts (gi_S mw234 mw232 mw233 mw29) rfl rfl rfl (by decide +kernel) ⟨Nat.le_of_ble_eq_true rfl, Nat.le_of_ble_eq_true rfl⟩) (tx_S hM hPc hT) rfl rfl hl.1 rfl (lv_room (Nat.le_of_ble_eq_true rfl)) d_R_place_3 ⟨Nat.le_of_ble_eq_true rfl, Nat.le_of_ble_eq_true rfl⟩) htab hlocks
  exact absurd (show wn3 a b c9 from q_3) h

set_option maxHeartbeats 4000000 in
set_option maxRecDepth 100000 in
theorem t_R_until (l : Launch) (hst : l.stackTraces = false) (dC : Nat → ClassId) (dI : Nat → Nat → Nat) (cI cL : ClassId) (sa1 sa2 : Nat) (aR : Nat) (aX : Nat) (aY : Nat) (aZ : Nat) (aK : Nat) (aF : Nat) (aE : Nat) (aL : Nat) (od : Int32) (wd : Int32) (d : Int64) (h : ¬ (0 ≤ d)) : TX l y_R_until w_R_until ({ frames := 7, cells := 1, slots := 6, locals := 103 }) (tx_P (dC, dI) cI cL [(aR, .inr (2, [.ref aX, .ref aY, .ref aZ, .ref aK, .ref aF, .ref aE, .ref aL, .int od, .int wd]))] sa1 sa2 [.ref aR, .long d]) := by
  refine vx_ofW (cc := b_R_until) (maxL := 3) (ret := (some .int)) (by decide) rfl ?_
  intro p e s m args below meth c s₁ B hml htab hv
  obtain ⟨rfl, hP, hM, hT⟩ := hv
  have hx := B.exec
  have hb := B.bytes
  have hr := B.returns
  have hts := atoms_spec (ws := w_R_until) B.pre
  have hown : s.vm.findClass "RoomEchoes" = some m.cls := findClass_of_methodNamed B.named
  have hlocks := B.notSynchronized
  have hK := hM.1
  have hl := lv_entry ([.ref aR, .long d]) (n := 3) (Nat.le_of_ble_eq_true rfl)
  rw [lg_entry_eq]
  generalize (lg_sl ([.ref aR, .long d]) ++ List.replicate (3 - (lg_sl ([.ref aR, .long d])).length) Slot.unset).toArray = ls at hl ⊢
  have hl : lv_has ls 3 [(0, .ref aR), (1, .long d)] := hl
  refine lv_lload_n hx hb d_R_until_0 rfl (lv_at hl 1 rfl) ?_
  by_cases q_1 : 0 ≤ d
  rotate_left
  · have hPc := hP.sub (ws' := []) [] rfl
    exact tx_out (vx_runS (As := [.long d]) (rest := []) ⟨hx, hb, hml, hown, hts⟩ (t_R_requireDistance l hst dC dI cI cL sa1 sa2 d q_1) (cwS 1 hts (gi_S mw369 mw367 mw368 mw29) rfl rfl rfl (by decide +kernel) ⟨Nat.le_of_ble_eq_true rfl, Nat.le_of_ble_eq_true rfl⟩) (tx_S hM hPc hT) rfl rfl hl.1 rfl (lv_room (Nat.le_of_ble_eq_true rfl)) d_R_until_1 ⟨Nat.le_of_ble_eq_true rfl, Nat.le_of_ble_eq_true rfl⟩) htab hlocks
  exact absurd (show 0 ≤ d from q_1) h

set_option maxHeartbeats 4000000 in
set_option maxRecDepth 100000 in
theorem t_R_loud (l : Launch) (hst : l.stackTraces = false) (dC : Nat → ClassId) (dI : Nat → Nat → Nat) (cI cL : ClassId) (sa1 sa2 : Nat) (aR : Nat) (aX : Nat) (aY : Nat) (aZ : Nat) (aK : Nat) (aF : Nat) (aE : Nat) (aL : Nat) (od : Int32) (wd : Int32) (fr : Int32) (to : Int32) (h : ¬ (wi fr 0 499 ∧ wi to fr 499)) : TX l y_R_loud w_R_loud ({ frames := 7, cells := 1, slots := 6, locals := 104 }) (tx_P (dC, dI) cI cL [(aR, .inr (2, [.ref aX, .ref aY, .ref aZ, .ref aK, .ref aF, .ref aE, .ref aL, .int od, .int wd]))] sa1 sa2 [.ref aR, .int fr, .int to]) := by
  refine vx_ofW (cc := b_R_loud) (maxL := 3) (ret := (some .long)) (by decide) rfl ?_
  intro p e s m args below meth c s₁ B hml htab hv
  obtain ⟨rfl, hP, hM, hT⟩ := hv
  have hx := B.exec
  have hb := B.bytes
  have hr := B.returns
  have hts := atoms_spec (ws := w_R_loud) B.pre
  have hown : s.vm.findClass "RoomEchoes" = some m.cls := findClass_of_methodNamed B.named
  have hlocks := B.notSynchronized
  have hK := hM.1
  have hl := lv_entry ([.ref aR, .int fr, .int to]) (n := 3) (Nat.le_of_ble_eq_true rfl)
  rw [lg_entry_eq]
  generalize (lg_sl ([.ref aR, .int fr, .int to]) ++ List.replicate (3 - (lg_sl ([.ref aR, .int fr, .int to])).length) Slot.unset).toArray = ls at hl ⊢
  have hl : lv_has ls 3 [(0, .ref aR), (1, .int fr), (2, .int to)] := hl
  refine lv_iload_n hx hb d_R_loud_0 rfl (lv_at hl 1 rfl) ?_
  refine lv_iconst (v := 0) hx hb d_R_loud_1 (by decide) ?_
  refine lv_sipush (v := 499) hx hb d_R_loud_2 (by decide) ?_
  by_cases q_5 : wi fr 0 499
  rotate_left
  · have hPc := hP.sub (ws' := []) [] rfl
    exact tx_out (vx_runS (As := [.int fr, .int 0, .int 499]) (rest := []) ⟨hx, hb, hml, hown, hts⟩ (t_R_requireWithin l hst dC dI cI cL sa1 sa2 fr 0 499 q_5) (cwS 3 hts (gi_S mw140 mw138 mw139 mw29) rfl rfl rfl (by decide +kernel) ⟨Nat.le_of_ble_eq_true rfl, Nat.le_of_ble_eq_true rfl⟩) (tx_S hM hPc hT) rfl rfl hl.1 rfl (lv_room (Nat.le_of_ble_eq_true rfl)) d_R_loud_5 ⟨Nat.le_of_ble_eq_true rfl, Nat.le_of_ble_eq_true rfl⟩) htab hlocks
  refine rd_cv (va_runS (As := [.int fr, .int 0, .int 499]) (rest := []) ⟨hx, hb, hml, hown, hts⟩ (c_R_requireWithin l fr 0 499 q_5) (cwS 3 hts (gi_S mw140 mw138 mw139 mw29) rfl rfl rfl (by decide +kernel) ⟨Nat.le_of_ble_eq_true rfl, Nat.le_of_ble_eq_true rfl⟩) st_S rfl rfl hl.1 rfl (lv_room (Nat.le_of_ble_eq_true rfl)) d_R_loud_5 ⟨Nat.le_of_ble_eq_true rfl, Nat.le_of_ble_eq_true rfl⟩) ?_
  refine lv_iload_n hx hb d_R_loud_8 rfl (lv_at hl 2 rfl) ?_
  refine lv_iload_n hx hb d_R_loud_9 rfl (lv_at hl 1 rfl) ?_
  refine lv_sipush (v := 499) hx hb d_R_loud_10 (by decide) ?_
  by_cases q_13 : wi to fr 499
  rotate_left
  · have hPc := hP.sub (ws' := []) [] rfl
    exact tx_out (vx_runS (As := [.int to, .int fr, .int 499]) (rest := []) ⟨hx, hb, hml, hown, hts⟩ (t_R_requireWithin l hst dC dI cI cL sa1 sa2 to fr 499 q_13) (cwS 3 hts (gi_S mw140 mw138 mw139 mw29) rfl rfl rfl (by decide +kernel) ⟨Nat.le_of_ble_eq_true rfl, Nat.le_of_ble_eq_true rfl⟩) (tx_S hM hPc hT) rfl rfl hl.1 rfl (lv_room (Nat.le_of_ble_eq_true rfl)) d_R_loud_13 ⟨Nat.le_of_ble_eq_true rfl, Nat.le_of_ble_eq_true rfl⟩) htab hlocks
  exact absurd (show wi fr 0 499 ∧ wi to fr 499 from ⟨q_5, q_13⟩) h

set_option maxHeartbeats 4000000 in
set_option maxRecDepth 100000 in
theorem t_R_early (l : Launch) (hst : l.stackTraces = false) (dC : Nat → ClassId) (dI : Nat → Nat → Nat) (cI cL : ClassId) (sa1 sa2 : Nat) (aR : Nat) (aX : Nat) (aY : Nat) (aZ : Nat) (aK : Nat) (aF : Nat) (aE : Nat) (aL : Nat) (od : Int32) (wd : Int32) (d : Int64) (pt : Int32) (h : ¬ (0 ≤ d ∧ wi pt 0 1)) : TX l y_R_early w_R_early ({ frames := 7, cells := 1, slots := 6, locals := 104 }) (tx_P (dC, dI) cI cL [(aR, .inr (2, [.ref aX, .ref aY, .ref aZ, .ref aK, .ref aF, .ref aE, .ref aL, .int od, .int wd]))] sa1 sa2 [.ref aR, .long d, .int pt]) := by
  refine vx_ofW (cc := b_R_early) (maxL := 10) (ret := (some .long)) (by decide) rfl ?_
  intro p e s m args below meth c s₁ B hml htab hv
  obtain ⟨rfl, hP, hM, hT⟩ := hv
  have hx := B.exec
  have hb := B.bytes
  have hr := B.returns
  have hts := atoms_spec (ws := w_R_early) B.pre
  have hown : s.vm.findClass "RoomEchoes" = some m.cls := findClass_of_methodNamed B.named
  have hlocks := B.notSynchronized
  have hK := hM.1
  have hl := lv_entry ([.ref aR, .long d, .int pt]) (n := 10) (Nat.le_of_ble_eq_true rfl)
  rw [lg_entry_eq]
  generalize (lg_sl ([.ref aR, .long d, .int pt]) ++ List.replicate (10 - (lg_sl ([.ref aR, .long d, .int pt])).length) Slot.unset).toArray = ls at hl ⊢
  have hl : lv_has ls 10 [(0, .ref aR), (1, .long d), (3, .int pt)] := hl
  refine lv_lload_n hx hb d_R_early_0 rfl (lv_at hl 1 rfl) ?_
  by_cases q_1 : 0 ≤ d
  rotate_left
  · have hPc := hP.sub (ws' := []) [] rfl
    exact tx_out (vx_runS (As := [.long d]) (rest := []) ⟨hx, hb, hml, hown, hts⟩ (t_R_requireDistance l hst dC dI cI cL sa1 sa2 d q_1) (cwS 1 hts (gi_S mw369 mw367 mw368 mw29) rfl rfl rfl (by decide +kernel) ⟨Nat.le_of_ble_eq_true rfl, Nat.le_of_ble_eq_true rfl⟩) (tx_S hM hPc hT) rfl rfl hl.1 rfl (lv_room (Nat.le_of_ble_eq_true rfl)) d_R_early_1 ⟨Nat.le_of_ble_eq_true rfl, Nat.le_of_ble_eq_true rfl⟩) htab hlocks
  refine rd_cv (va_runS (As := [.long d]) (rest := []) ⟨hx, hb, hml, hown, hts⟩ (c_R_requireDistance l d q_1) (cwS 1 hts (gi_S mw369 mw367 mw368 mw29) rfl rfl rfl (by decide +kernel) ⟨Nat.le_of_ble_eq_true rfl, Nat.le_of_ble_eq_true rfl⟩) st_S rfl rfl hl.1 rfl (lv_room (Nat.le_of_ble_eq_true rfl)) d_R_early_1 ⟨Nat.le_of_ble_eq_true rfl, Nat.le_of_ble_eq_true rfl⟩) ?_
  refine lv_iload_n hx hb d_R_early_4 rfl (lv_at hl 2 rfl) ?_
  refine lv_iconst (v := 0) hx hb d_R_early_5 (by decide) ?_
  refine lv_iconst (v := 1) hx hb d_R_early_6 (by decide) ?_
  by_cases q_7 : wi pt 0 1
  rotate_left
  · have hPc := hP.sub (ws' := []) [] rfl
    exact tx_out (vx_runS (As := [.int pt, .int 0, .int 1]) (rest := []) ⟨hx, hb, hml, hown, hts⟩ (t_R_requireWithin l hst dC dI cI cL sa1 sa2 pt 0 1 q_7) (cwS 3 hts (gi_S mw140 mw138 mw139 mw29) rfl rfl rfl (by decide +kernel) ⟨Nat.le_of_ble_eq_true rfl, Nat.le_of_ble_eq_true rfl⟩) (tx_S hM hPc hT) rfl rfl hl.1 rfl (lv_room (Nat.le_of_ble_eq_true rfl)) d_R_early_7 ⟨Nat.le_of_ble_eq_true rfl, Nat.le_of_ble_eq_true rfl⟩) htab hlocks
  exact absurd (show 0 ≤ d ∧ wi pt 0 1 from ⟨q_1, q_7⟩) h

set_option maxHeartbeats 4000000 in
set_option maxRecDepth 100000 in
theorem t_R_enough (l : Launch) (hst : l.stackTraces = false) (dC : Nat → ClassId) (dI : Nat → Nat → Nat) (cI cL : ClassId) (sa1 sa2 : Nat) (aR : Nat) (aX : Nat) (aY : Nat) (aZ : Nat) (aK : Nat) (aF : Nat) (aE : Nat) (aL : Nat) (od : Int32) (wd : Int32) (th : Int32) (h : ¬ (wi th 0 1000)) : TX l y_R_enough w_R_enough ({ frames := 7, cells := 1, slots := 6, locals := 104 }) (tx_P (dC, dI) cI cL [(aR, .inr (2, [.ref aX, .ref aY, .ref aZ, .ref aK, .ref aF, .ref aE, .ref aL, .int od, .int wd]))] sa1 sa2 [.ref aR, .int th]) := by
  refine vx_ofW (cc := b_R_enough) (maxL := 7) (ret := (some .int)) (by decide) rfl ?_
  intro p e s m args below meth c s₁ B hml htab hv
  obtain ⟨rfl, hP, hM, hT⟩ := hv
  have hx := B.exec
  have hb := B.bytes
  have hr := B.returns
  have hts := atoms_spec (ws := w_R_enough) B.pre
  have hown : s.vm.findClass "RoomEchoes" = some m.cls := findClass_of_methodNamed B.named
  have hlocks := B.notSynchronized
  have hK := hM.1
  have hl := lv_entry ([.ref aR, .int th]) (n := 7) (Nat.le_of_ble_eq_true rfl)
  rw [lg_entry_eq]
  generalize (lg_sl ([.ref aR, .int th]) ++ List.replicate (7 - (lg_sl ([.ref aR, .int th])).length) Slot.unset).toArray = ls at hl ⊢
  have hl : lv_has ls 7 [(0, .ref aR), (1, .int th)] := hl
  refine lv_iload_n hx hb d_R_enough_0 rfl (lv_at hl 1 rfl) ?_
  refine lv_iconst (v := 0) hx hb d_R_enough_1 (by decide) ?_
  refine lv_sipush (v := 1000) hx hb d_R_enough_2 (by decide) ?_
  by_cases q_5 : wi th 0 1000
  rotate_left
  · have hPc := hP.sub (ws' := []) [] rfl
    exact tx_out (vx_runS (As := [.int th, .int 0, .int 1000]) (rest := []) ⟨hx, hb, hml, hown, hts⟩ (t_R_requireWithin l hst dC dI cI cL sa1 sa2 th 0 1000 q_5) (cwS 3 hts (gi_S mw140 mw138 mw139 mw29) rfl rfl rfl (by decide +kernel) ⟨Nat.le_of_ble_eq_true rfl, Nat.le_of_ble_eq_true rfl⟩) (tx_S hM hPc hT) rfl rfl hl.1 rfl (lv_room (Nat.le_of_ble_eq_true rfl)) d_R_enough_5 ⟨Nat.le_of_ble_eq_true rfl, Nat.le_of_ble_eq_true rfl⟩) htab hlocks
  exact absurd (show wi th 0 1000 from q_5) h

set_option maxHeartbeats 4000000 in
set_option maxRecDepth 100000 in
theorem t_R_loudest (l : Launch) (hst : l.stackTraces = false) (dC : Nat → ClassId) (dI : Nat → Nat → Nat) (cI cL : ClassId) (sa1 sa2 : Nat) (aR : Nat) (aX : Nat) (aY : Nat) (aZ : Nat) (aK : Nat) (aF : Nat) (aE : Nat) (aL : Nat) (od : Int32) (wd : Int32) (k : Int32) (h : ¬ (wi k (-1) 499)) : TX l y_R_loudest w_R_loudest ({ frames := 7, cells := 1, slots := 6, locals := 104 }) (tx_P (dC, dI) cI cL [(aR, .inr (2, [.ref aX, .ref aY, .ref aZ, .ref aK, .ref aF, .ref aE, .ref aL, .int od, .int wd]))] sa1 sa2 [.ref aR, .int k]) := by
  refine vx_ofW (cc := b_R_loudest) (maxL := 6) (ret := (some .int)) (by decide) rfl ?_
  intro p e s m args below meth c s₁ B hml htab hv
  obtain ⟨rfl, hP, hM, hT⟩ := hv
  have hx := B.exec
  have hb := B.bytes
  have hr := B.returns
  have hts := atoms_spec (ws := w_R_loudest) B.pre
  have hown : s.vm.findClass "RoomEchoes" = some m.cls := findClass_of_methodNamed B.named
  have hlocks := B.notSynchronized
  have hK := hM.1
  have hl := lv_entry ([.ref aR, .int k]) (n := 6) (Nat.le_of_ble_eq_true rfl)
  rw [lg_entry_eq]
  generalize (lg_sl ([.ref aR, .int k]) ++ List.replicate (6 - (lg_sl ([.ref aR, .int k])).length) Slot.unset).toArray = ls at hl ⊢
  have hl : lv_has ls 6 [(0, .ref aR), (1, .int k)] := hl
  refine lv_iload_n hx hb d_R_loudest_0 rfl (lv_at hl 1 rfl) ?_
  refine lv_iconst (v := (-1)) hx hb d_R_loudest_1 (by decide) ?_
  refine lv_sipush (v := 499) hx hb d_R_loudest_2 (by decide) ?_
  by_cases q_5 : wi k (-1) 499
  rotate_left
  · have hPc := hP.sub (ws' := []) [] rfl
    exact tx_out (vx_runS (As := [.int k, .int (-1), .int 499]) (rest := []) ⟨hx, hb, hml, hown, hts⟩ (t_R_requireWithin l hst dC dI cI cL sa1 sa2 k (-1) 499 q_5) (cwS 3 hts (gi_S mw140 mw138 mw139 mw29) rfl rfl rfl (by decide +kernel) ⟨Nat.le_of_ble_eq_true rfl, Nat.le_of_ble_eq_true rfl⟩) (tx_S hM hPc hT) rfl rfl hl.1 rfl (lv_room (Nat.le_of_ble_eq_true rfl)) d_R_loudest_5 ⟨Nat.le_of_ble_eq_true rfl, Nat.le_of_ble_eq_true rfl⟩) htab hlocks
  exact absurd (show wi k (-1) 499 from q_5) h
