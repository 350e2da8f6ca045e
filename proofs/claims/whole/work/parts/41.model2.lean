def j_cz (x : Int32) : Int32 := if 1 ≤ x then (if x ≤ 1000 then x else 1000) else 1
theorem im_n {a b c : Int32} (h : ¬ j_M_isImage a b c = 0) : wn3 a b c := by
  by_cases q : wn3 a b c
  · exact q
  · exact absurd (im_no q) h
def j_cu (D : Nat → Int64) (d : Int64) : Nat → Nat → Nat
  | 0, i => i
  | n + 1, i => if d < D i then i else j_cu D d n (i + 1)
theorem j_cu_le (D : Nat → Int64) (d : Int64) : ∀ n i, j_cu D d n i ≤ i + n := by
  intro n
  induction n with
  | zero => intro i; exact Nat.le_refl _
  | succ n ih =>
    intro i
    show (if d < D i then i else j_cu D d n (i + 1)) ≤ i + (n + 1)
    split
    · omega
    · have := ih (i + 1); omega
def m_echo (zs sc li kp as bs cs : Nat → Int32) (k : Nat) (what : Int32) : Int64 :=
  if 4 ≤ what then (if what = 4 then (as k).toInt64 else if what = 5 then (bs k).toInt64 else (cs k).toInt64) else j_M_told zs sc li kp (as k) (bs k) (cs k) what

set_option maxHeartbeats 4000000 in
set_option maxRecDepth 100000 in
theorem c_M_init (l : Launch) (dC : Nat → ClassId) (dI : Nat → Nat → Nat) (cI cL : ClassId) (aM : Nat) (x : Int32) (y : Int32) (z : Int32) (sz : Nat) : Met l y_M_init w_M_init ({ frames := 1, cells := 10, slots := 2501, locals := 12 }) (wr_P (dC, dI) cI cL [(aM, .inr (3, [.int 0, .null, .null, .null, .null, .int 0, .null, .null, .null, .null, .null, .null]))] sz [.ref aM, .int x, .int y, .int z]) (va_Qv (fun (u : (Nat) × (Nat) × (Nat) × (Nat) × (Nat) × (Nat) × (Nat) × (Nat) × (Nat) × (Nat)) => True) (fun u t => va_P (dC, dI) vwCl [(aM, .inr (3, [.int 0, .ref u.1, .ref u.2.1, .ref u.2.2.1, .ref u.2.2.2.1, .int 0, .ref u.2.2.2.2.1, .ref u.2.2.2.2.2.1, .ref u.2.2.2.2.2.2.1, .ref u.2.2.2.2.2.2.2.1, .ref u.2.2.2.2.2.2.2.2.1, .ref u.2.2.2.2.2.2.2.2.2])), (u.1, .inl (cI, 3, .inl (upd (upd (upd (fun _ => 0) 0 (j_cz x)) 1 (j_cz y)) 2 (j_cz z)))), (u.2.1, .inl (cI, 3, .inl (fun _ => 0))), (u.2.2.1, .inl (cI, 3, .inl (fun _ => 0))), (u.2.2.2.2.1, .inl (cL, 243, .inr (.inl (fun _ => 0)))), (u.2.2.2.2.2.1, .inl (cL, 243, .inr (.inl (fun _ => 0)))), (u.2.2.2.2.2.2.1, .inl (cL, 500, .inr (.inl (fun _ => 0)))), (u.2.2.2.2.2.2.2.1, .inl (cI, 500, .inl (fun _ => 0))), (u.2.2.2.2.2.2.2.2.1, .inl (cI, 500, .inl (fun _ => 0))), (u.2.2.2.2.2.2.2.2.2, .inl (cI, 500, .inl (fun _ => 0))), (u.2.2.2.1, .inl (cI, 6, .inl (kpi 6)))] t.heap ∧ va_D (va_A [(aM, .inr (3, [.int 0, .null, .null, .null, .null, .int 0, .null, .null, .null, .null, .null, .null]))] sz) [(aM, .inr (3, [.int 0, .ref u.1, .ref u.2.1, .ref u.2.2.1, .ref u.2.2.2.1, .int 0, .ref u.2.2.2.2.1, .ref u.2.2.2.2.2.1, .ref u.2.2.2.2.2.2.1, .ref u.2.2.2.2.2.2.2.1, .ref u.2.2.2.2.2.2.2.2.1, .ref u.2.2.2.2.2.2.2.2.2])), (u.1, .inl (cI, 3, .inl (upd (upd (upd (fun _ => 0) 0 (j_cz x)) 1 (j_cz y)) 2 (j_cz z)))), (u.2.1, .inl (cI, 3, .inl (fun _ => 0))), (u.2.2.1, .inl (cI, 3, .inl (fun _ => 0))), (u.2.2.2.2.1, .inl (cL, 243, .inr (.inl (fun _ => 0)))), (u.2.2.2.2.2.1, .inl (cL, 243, .inr (.inl (fun _ => 0)))), (u.2.2.2.2.2.2.1, .inl (cL, 500, .inr (.inl (fun _ => 0)))), (u.2.2.2.2.2.2.2.1, .inl (cI, 500, .inl (fun _ => 0))), (u.2.2.2.2.2.2.2.2.1, .inl (cI, 500, .inl (fun _ => 0))), (u.2.2.2.2.2.2.2.2.2, .inl (cI, 500, .inl (fun _ => 0))), (u.2.2.2.1, .inl (cI, 6, .inl (kpi 6)))]) (va_A [(aM, .inr (3, [.int 0, .null, .null, .null, .null, .int 0, .null, .null, .null, .null, .null, .null]))] sz)) 10 2501 (va_A [(aM, .inr (3, [.int 0, .null, .null, .null, .null, .int 0, .null, .null, .null, .null, .null, .null]))] sz) := by
  refine Met.ofW (cc := b_M_init) (maxL := 5) (ret := none) (by decide) rfl ?_
  intro p e s m args below meth c s₁ B hml hv
  obtain ⟨rfl, hsz, hP, hM, hD0⟩ := hv
  have hx := B.exec
  have hb := B.bytes
  have hr := B.returns
  have hts := atoms_spec (ws := w_M_init) B.pre
  have hown : s.vm.findClass "RoomEchoesModel" = some m.cls := findClass_of_methodNamed B.named
  have hlocks := B.notSynchronized
  have hK := hM.1
  have hin : meth.name = "<init>" := (name_of_methodNamed B.named B.method).1
  subst hsz
  have hD := hD0.self (sz := s.heap.size)
  generalize hAe : va_A [(aM, .inr (3, [.int 0, .null, .null, .null, .null, .int 0, .null, .null, .null, .null, .null, .null]))] s.heap.size = A at hD ⊢
  have hA : ∀ q : Nat, s.heap.size ≤ q → A q := fun q h => by rw [← hAe]; exact Or.inr h
  have hS : va_S A s.heap s.heap [] := va_S.rf
  have hP : va_P (dC, dI) vwCl [(aM, .inr (3, [.int 0, .null, .null, .null, .null, .int 0, .null, .null, .null, .null, .null, .null]))] s.heap := hP
  have hl := lv_entry ([.ref aM, .int x, .int y, .int z]) (n := 5) (Nat.le_of_ble_eq_true rfl)
  rw [lg_entry_eq]
  generalize (lg_sl ([.ref aM, .int x, .int y, .int z]) ++ List.replicate (5 - (lg_sl ([.ref aM, .int x, .int y, .int z])).length) Slot.unset).toArray = ls at hl ⊢
  have hl : lv_has ls 5 [(0, .ref aM), (1, .int x), (2, .int y), (3, .int z)] := hl
  refine lv_aload_n hx hb d_M_init_0 rfl (lv_at hl 0 rfl) ?_
  refine W.objInit hx hb hown (ht_ hts mw423) (ht_ hts mw44) (ht_ hts mw45) rfl (by rw [hml]; exact hl.1) rfl d_M_init_1 (Nat.le_of_ble_eq_true rfl) (Nat.le_of_ble_eq_true rfl) ?_
  refine W.eq (g2 := F0 m 4 ls []) rfl ?_
  refine lv_aload_n hx hb d_M_init_4 rfl (lv_at hl 0 rfl) ?_
  refine lv_iconst (v := 3) hx hb d_M_init_5 (by decide) ?_
  refine nw_i (N' := 3) hx hb (ht_ hts mw59) hM hP hD hS hA (by decide) (by decide) (by decide) (Nat.le_of_ble_eq_true rfl) (Nat.le_of_ble_eq_true rfl) d_M_init_6 (fun q_1 H hP hD hS => ?_)
  have hP : va_P (dC, dI) vwCl [(aM, .inr (3, [.int 0, .null, .null, .null, .null, .int 0, .null, .null, .null, .null, .null, .null])), (q_1, .inl (cI, 3, .inl (fun _ => 0)))] H := hP
  have hD : va_D A [(aM, .inr (3, [.int 0, .null, .null, .null, .null, .int 0, .null, .null, .null, .null, .null, .null])), (q_1, .inl (cI, 3, .inl (fun _ => 0)))] := hD
  refine W.widen (k := 1) (n := 3) (Nat.le_of_ble_eq_true rfl) (Nat.le_of_ble_eq_true rfl) ?_
  refine va_putF (D := (dC, dI)) (ci := 3) (v := .ref q_1) (ty := .array .int) (C := "RoomEchoesModel") (T := FT_M) (N := 12) hx hb hts (hi_ in_M) ty_M tyo_M nm_M hown hK hP hD hS 0 rfl rfl 1 (by decide) (ht_ hts mw425) (fun _ h9 => h9) rfl hin rfl (by decide +kernel) rfl rfl (Nat.le_of_ble_eq_true rfl) d_M_init_8 (fun H locs hP hD hS => ?_)
  have hP : va_P (dC, dI) vwCl [(aM, .inr (3, [.int 0, .ref q_1, .null, .null, .null, .int 0, .null, .null, .null, .null, .null, .null])), (q_1, .inl (cI, 3, .inl (fun _ => 0)))] H := hP
  have hD : va_D A [(aM, .inr (3, [.int 0, .ref q_1, .null, .null, .null, .int 0, .null, .null, .null, .null, .null, .null])), (q_1, .inl (cI, 3, .inl (fun _ => 0)))] := hD
  refine lv_aload_n hx hb d_M_init_11 rfl (lv_at hl 0 rfl) ?_
  refine lv_iconst (v := 3) hx hb d_M_init_12 (by decide) ?_
  refine nw_i (N' := 3) hx hb (ht_ hts mw59) hM hP hD hS hA (by decide) (by decide) (by decide) (Nat.le_of_ble_eq_true rfl) (Nat.le_of_ble_eq_true rfl) d_M_init_13 (fun q_2 H hP hD hS => ?_)
  have hP : va_P (dC, dI) vwCl [(aM, .inr (3, [.int 0, .ref q_1, .null, .null, .null, .int 0, .null, .null, .null, .null, .null, .null])), (q_1, .inl (cI, 3, .inl (fun _ => 0))), (q_2, .inl (cI, 3, .inl (fun _ => 0)))] H := hP
  have hD : va_D A [(aM, .inr (3, [.int 0, .ref q_1, .null, .null, .null, .int 0, .null, .null, .null, .null, .null, .null])), (q_1, .inl (cI, 3, .inl (fun _ => 0))), (q_2, .inl (cI, 3, .inl (fun _ => 0)))] := hD
  refine W.widen (k := 2) (n := 6) (Nat.le_of_ble_eq_true rfl) (Nat.le_of_ble_eq_true rfl) ?_
  refine va_putF (D := (dC, dI)) (ci := 3) (v := .ref q_2) (ty := .array .int) (C := "RoomEchoesModel") (T := FT_M) (N := 12) hx hb hts (hi_ in_M) ty_M tyo_M nm_M hown hK hP hD hS 0 rfl rfl 2 (by decide) (ht_ hts mw426) (fun _ h9 => h9) rfl hin rfl (by decide +kernel) rfl rfl (Nat.le_of_ble_eq_true rfl) d_M_init_15 (fun H locs hP hD hS => ?_)
  have hP : va_P (dC, dI) vwCl [(aM, .inr (3, [.int 0, .ref q_1, .ref q_2, .null, .null, .int 0, .null, .null, .null, .null, .null, .null])), (q_1, .inl (cI, 3, .inl (fun _ => 0))), (q_2, .inl (cI, 3, .inl (fun _ => 0)))] H := hP
  have hD : va_D A [(aM, .inr (3, [.int 0, .ref q_1, .ref q_2, .null, .null, .int 0, .null, .null, .null, .null, .null, .null])), (q_1, .inl (cI, 3, .inl (fun _ => 0))), (q_2, .inl (cI, 3, .inl (fun _ => 0)))] := hD
  refine lv_aload_n hx hb d_M_init_18 rfl (lv_at hl 0 rfl) ?_
  refine lv_iconst (v := 3) hx hb d_M_init_19 (by decide) ?_
  refine nw_i (N' := 3) hx hb (ht_ hts mw59) hM hP hD hS hA (by decide) (by decide) (by decide) (Nat.le_of_ble_eq_true rfl) (Nat.le_of_ble_eq_true rfl) d_M_init_20 (fun q_3 H hP hD hS => ?_)
  have hP : va_P (dC, dI) vwCl [(aM, .inr (3, [.int 0, .ref q_1, .ref q_2, .null, .null, .int 0, .null, .null, .null, .null, .null, .null])), (q_1, .inl (cI, 3, .inl (fun _ => 0))), (q_2, .inl (cI, 3, .inl (fun _ => 0))), (q_3, .inl (cI, 3, .inl (fun _ => 0)))] H := hP
  have hD : va_D A [(aM, .inr (3, [.int 0, .ref q_1, .ref q_2, .null, .null, .int 0, .null, .null, .null, .null, .null, .null])), (q_1, .inl (cI, 3, .inl (fun _ => 0))), (q_2, .inl (cI, 3, .inl (fun _ => 0))), (q_3, .inl (cI, 3, .inl (fun _ => 0)))] := hD
  refine W.widen (k := 3) (n := 9) (Nat.le_of_ble_eq_true rfl) (Nat.le_of_ble_eq_true rfl) ?_
  refine va_putF (D := (dC, dI)) (ci := 3) (v := .ref q_3) (ty := .array .int) (C := "RoomEchoesModel") (T := FT_M) (N := 12) hx hb hts (hi_ in_M) ty_M tyo_M nm_M hown hK hP hD hS 0 rfl rfl 3 (by decide) (ht_ hts mw427) (fun _ h9 => h9) rfl hin rfl (by decide +kernel) rfl rfl (Nat.le_of_ble_eq_true rfl) d_M_init_22 (fun H locs hP hD hS => ?_)
  have hP : va_P (dC, dI) vwCl [(aM, .inr (3, [.int 0, .ref q_1, .ref q_2, .ref q_3, .null, .int 0, .null, .null, .null, .null, .null, .null])), (q_1, .inl (cI, 3, .inl (fun _ => 0))), (q_2, .inl (cI, 3, .inl (fun _ => 0))), (q_3, .inl (cI, 3, .inl (fun _ => 0)))] H := hP
  have hD : va_D A [(aM, .inr (3, [.int 0, .ref q_1, .ref q_2, .ref q_3, .null, .int 0, .null, .null, .null, .null, .null, .null])), (q_1, .inl (cI, 3, .inl (fun _ => 0))), (q_2, .inl (cI, 3, .inl (fun _ => 0))), (q_3, .inl (cI, 3, .inl (fun _ => 0)))] := hD
  refine lv_aload_n hx hb d_M_init_25 rfl (lv_at hl 0 rfl) ?_
  refine lv_bipush (v := 6) hx hb d_M_init_26 (by decide) ?_
  refine nw_i (N' := 6) hx hb (ht_ hts mw59) hM hP hD hS hA (by decide) (by decide) (by decide) (Nat.le_of_ble_eq_true rfl) (Nat.le_of_ble_eq_true rfl) d_M_init_28 (fun q_4 H hP hD hS => ?_)
  have hP : va_P (dC, dI) vwCl [(aM, .inr (3, [.int 0, .ref q_1, .ref q_2, .ref q_3, .null, .int 0, .null, .null, .null, .null, .null, .null])), (q_1, .inl (cI, 3, .inl (fun _ => 0))), (q_2, .inl (cI, 3, .inl (fun _ => 0))), (q_3, .inl (cI, 3, .inl (fun _ => 0))), (q_4, .inl (cI, 6, .inl (fun _ => 0)))] H := hP
  have hD : va_D A [(aM, .inr (3, [.int 0, .ref q_1, .ref q_2, .ref q_3, .null, .int 0, .null, .null, .null, .null, .null, .null])), (q_1, .inl (cI, 3, .inl (fun _ => 0))), (q_2, .inl (cI, 3, .inl (fun _ => 0))), (q_3, .inl (cI, 3, .inl (fun _ => 0))), (q_4, .inl (cI, 6, .inl (fun _ => 0)))] := hD
  refine W.widen (k := 4) (n := 15) (Nat.le_of_ble_eq_true rfl) (Nat.le_of_ble_eq_true rfl) ?_
  refine va_putF (D := (dC, dI)) (ci := 3) (v := .ref q_4) (ty := .array .int) (C := "RoomEchoesModel") (T := FT_M) (N := 12) hx hb hts (hi_ in_M) ty_M tyo_M nm_M hown hK hP hD hS 0 rfl rfl 4 (by decide) (ht_ hts mw428) (fun _ h9 => h9) rfl hin rfl (by decide +kernel) rfl rfl (Nat.le_of_ble_eq_true rfl) d_M_init_30 (fun H locs hP hD hS => ?_)
  have hP : va_P (dC, dI) vwCl [(aM, .inr (3, [.int 0, .ref q_1, .ref q_2, .ref q_3, .ref q_4, .int 0, .null, .null, .null, .null, .null, .null])), (q_1, .inl (cI, 3, .inl (fun _ => 0))), (q_2, .inl (cI, 3, .inl (fun _ => 0))), (q_3, .inl (cI, 3, .inl (fun _ => 0))), (q_4, .inl (cI, 6, .inl (fun _ => 0)))] H := hP
  have hD : va_D A [(aM, .inr (3, [.int 0, .ref q_1, .ref q_2, .ref q_3, .ref q_4, .int 0, .null, .null, .null, .null, .null, .null])), (q_1, .inl (cI, 3, .inl (fun _ => 0))), (q_2, .inl (cI, 3, .inl (fun _ => 0))), (q_3, .inl (cI, 3, .inl (fun _ => 0))), (q_4, .inl (cI, 6, .inl (fun _ => 0)))] := hD
  refine lv_aload_n hx hb d_M_init_33 rfl (lv_at hl 0 rfl) ?_
  refine lv_sipush (v := 243) hx hb d_M_init_34 (by decide) ?_
  refine nw_l (N' := 243) hx hb (ht_ hts mw60) hM hP hD hS hA (by decide) (by decide) (by decide) (Nat.le_of_ble_eq_true rfl) (Nat.le_of_ble_eq_true rfl) d_M_init_37 (fun q_5 H hP hD hS => ?_)
  have hP : va_P (dC, dI) vwCl [(aM, .inr (3, [.int 0, .ref q_1, .ref q_2, .ref q_3, .ref q_4, .int 0, .null, .null, .null, .null, .null, .null])), (q_1, .inl (cI, 3, .inl (fun _ => 0))), (q_2, .inl (cI, 3, .inl (fun _ => 0))), (q_3, .inl (cI, 3, .inl (fun _ => 0))), (q_4, .inl (cI, 6, .inl (fun _ => 0))), (q_5, .inl (cL, 243, .inr (.inl (fun _ => 0))))] H := hP
  have hD : va_D A [(aM, .inr (3, [.int 0, .ref q_1, .ref q_2, .ref q_3, .ref q_4, .int 0, .null, .null, .null, .null, .null, .null])), (q_1, .inl (cI, 3, .inl (fun _ => 0))), (q_2, .inl (cI, 3, .inl (fun _ => 0))), (q_3, .inl (cI, 3, .inl (fun _ => 0))), (q_4, .inl (cI, 6, .inl (fun _ => 0))), (q_5, .inl (cL, 243, .inr (.inl (fun _ => 0))))] := hD
  refine W.widen (k := 5) (n := 258) (Nat.le_of_ble_eq_true rfl) (Nat.le_of_ble_eq_true rfl) ?_
  refine va_putF (D := (dC, dI)) (ci := 3) (v := .ref q_5) (ty := .array .long) (C := "RoomEchoesModel") (T := FT_M) (N := 12) hx hb hts (hi_ in_M) ty_M tyo_M nm_M hown hK hP hD hS 0 rfl rfl 6 (by decide) (ht_ hts mw430) (fun _ h9 => h9) rfl hin rfl (by decide +kernel) rfl rfl (Nat.le_of_ble_eq_true rfl) d_M_init_39 (fun H locs hP hD hS => ?_)
  have hP : va_P (dC, dI) vwCl [(aM, .inr (3, [.int 0, .ref q_1, .ref q_2, .ref q_3, .ref q_4, .int 0, .ref q_5, .null, .null, .null, .null, .null])), (q_1, .inl (cI, 3, .inl (fun _ => 0))), (q_2, .inl (cI, 3, .inl (fun _ => 0))), (q_3, .inl (cI, 3, .inl (fun _ => 0))), (q_4, .inl (cI, 6, .inl (fun _ => 0))), (q_5, .inl (cL, 243, .inr (.inl (fun _ => 0))))] H := hP
  have hD : va_D A [(aM, .inr (3, [.int 0, .ref q_1, .ref q_2, .ref q_3, .ref q_4, .int 0, .ref q_5, .null, .null, .null, .null, .null])), (q_1, .inl (cI, 3, .inl (fun _ => 0))), (q_2, .inl (cI, 3, .inl (fun _ => 0))), (q_3, .inl (cI, 3, .inl (fun _ => 0))), (q_4, .inl (cI, 6, .inl (fun _ => 0))), (q_5, .inl (cL, 243, .inr (.inl (fun _ => 0))))] := hD
  refine lv_aload_n hx hb d_M_init_42 rfl (lv_at hl 0 rfl) ?_
  refine lv_sipush (v := 243) hx hb d_M_init_43 (by decide) ?_
  refine nw_l (N' := 243) hx hb (ht_ hts mw60) hM hP hD hS hA (by decide) (by decide) (by decide) (Nat.le_of_ble_eq_true rfl) (Nat.le_of_ble_eq_true rfl) d_M_init_46 (fun q_6 H hP hD hS => ?_)
  have hP : va_P (dC, dI) vwCl [(aM, .inr (3, [.int 0, .ref q_1, .ref q_2, .ref q_3, .ref q_4, .int 0, .ref q_5, .null, .null, .null, .null, .null])), (q_1, .inl (cI, 3, .inl (fun _ => 0))), (q_2, .inl (cI, 3, .inl (fun _ => 0))), (q_3, .inl (cI, 3, .inl (fun _ => 0))), (q_4, .inl (cI, 6, .inl (fun _ => 0))), (q_5, .inl (cL, 243, .inr (.inl (fun _ => 0)))), (q_6, .inl (cL, 243, .inr (.inl (fun _ => 0))))] H := hP
  have hD : va_D A [(aM, .inr (3, [.int 0, .ref q_1, .ref q_2, .ref q_3, .ref q_4, .int 0, .ref q_5, .null, .null, .null, .null, .null])), (q_1, .inl (cI, 3, .inl (fun _ => 0))), (q_2, .inl (cI, 3, .inl (fun _ => 0))), (q_3, .inl (cI, 3, .inl (fun _ => 0))), (q_4, .inl (cI, 6, .inl (fun _ => 0))), (q_5, .inl (cL, 243, .inr (.inl (fun _ => 0)))), (q_6, .inl (cL, 243, .inr (.inl (fun _ => 0))))] := hD
  refine W.widen (k := 6) (n := 501) (Nat.le_of_ble_eq_true rfl) (Nat.le_of_ble_eq_true rfl) ?_
  refine va_putF (D := (dC, dI)) (ci := 3) (v := .ref q_6) (ty := .array .long) (C := "RoomEchoesModel") (T := FT_M) (N := 12) hx hb hts (hi_ in_M) ty_M tyo_M nm_M hown hK hP hD hS 0 rfl rfl 7 (by decide) (ht_ hts mw431) (fun _ h9 => h9) rfl hin rfl (by decide +kernel) rfl rfl (Nat.le_of_ble_eq_true rfl) d_M_init_48 (fun H locs hP hD hS => ?_)
  have hP : va_P (dC, dI) vwCl [(aM, .inr (3, [.int 0, .ref q_1, .ref q_2, .ref q_3, .ref q_4, .int 0, .ref q_5, .ref q_6, .null, .null, .null, .null])), (q_1, .inl (cI, 3, .inl (fun _ => 0))), (q_2, .inl (cI, 3, .inl (fun _ => 0))), (q_3, .inl (cI, 3, .inl (fun _ => 0))), (q_4, .inl (cI, 6, .inl (fun _ => 0))), (q_5, .inl (cL, 243, .inr (.inl (fun _ => 0)))), (q_6, .inl (cL, 243, .inr (.inl (fun _ => 0))))] H := hP
  have hD : va_D A [(aM, .inr (3, [.int 0, .ref q_1, .ref q_2, .ref q_3, .ref q_4, .int 0, .ref q_5, .ref q_6, .null, .null, .null, .null])), (q_1, .inl (cI, 3, .inl (fun _ => 0))), (q_2, .inl (cI, 3, .inl (fun _ => 0))), (q_3, .inl (cI, 3, .inl (fun _ => 0))), (q_4, .inl (cI, 6, .inl (fun _ => 0))), (q_5, .inl (cL, 243, .inr (.inl (fun _ => 0)))), (q_6, .inl (cL, 243, .inr (.inl (fun _ => 0))))] := hD
  refine lv_aload_n hx hb d_M_init_51 rfl (lv_at hl 0 rfl) ?_
  refine lv_sipush (v := 500) hx hb d_M_init_52 (by decide) ?_
  refine nw_l (N' := 500) hx hb (ht_ hts mw60) hM hP hD hS hA (by decide) (by decide) (by decide) (Nat.le_of_ble_eq_true rfl) (Nat.le_of_ble_eq_true rfl) d_M_init_55 (fun q_7 H hP hD hS => ?_)
  have hP : va_P (dC, dI) vwCl [(aM, .inr (3, [.int 0, .ref q_1, .ref q_2, .ref q_3, .ref q_4, .int 0, .ref q_5, .ref q_6, .null, .null, .null, .null])), (q_1, .inl (cI, 3, .inl (fun _ => 0))), (q_2, .inl (cI, 3, .inl (fun _ => 0))), (q_3, .inl (cI, 3, .inl (fun _ => 0))), (q_4, .inl (cI, 6, .inl (fun _ => 0))), (q_5, .inl (cL, 243, .inr (.inl (fun _ => 0)))), (q_6, .inl (cL, 243, .inr (.inl (fun _ => 0)))), (q_7, .inl (cL, 500, .inr (.inl (fun _ => 0))))] H := hP
  have hD : va_D A [(aM, .inr (3, [.int 0, .ref q_1, .ref q_2, .ref q_3, .ref q_4, .int 0, .ref q_5, .ref q_6, .null, .null, .null, .null])), (q_1, .inl (cI, 3, .inl (fun _ => 0))), (q_2, .inl (cI, 3, .inl (fun _ => 0))), (q_3, .inl (cI, 3, .inl (fun _ => 0))), (q_4, .inl (cI, 6, .inl (fun _ => 0))), (q_5, .inl (cL, 243, .inr (.inl (fun _ => 0)))), (q_6, .inl (cL, 243, .inr (.inl (fun _ => 0)))), (q_7, .inl (cL, 500, .inr (.inl (fun _ => 0))))] := hD
  refine W.widen (k := 7) (n := 1001) (Nat.le_of_ble_eq_true rfl) (Nat.le_of_ble_eq_true rfl) ?_
  refine va_putF (D := (dC, dI)) (ci := 3) (v := .ref q_7) (ty := .array .long) (C := "RoomEchoesModel") (T := FT_M) (N := 12) hx hb hts (hi_ in_M) ty_M tyo_M nm_M hown hK hP hD hS 0 rfl rfl 8 (by decide) (ht_ hts mw432) (fun _ h9 => h9) rfl hin rfl (by decide +kernel) rfl rfl (Nat.le_of_ble_eq_true rfl) d_M_init_57 (fun H locs hP hD hS => ?_)
  have hP : va_P (dC, dI) vwCl [(aM, .inr (3, [.int 0, .ref q_1, .ref q_2, .ref q_3, .ref q_4, .int 0, .ref q_5, .ref q_6, .ref q_7, .null, .null, .null])), (q_1, .inl (cI, 3, .inl (fun _ => 0))), (q_2, .inl (cI, 3, .inl (fun _ => 0))), (q_3, .inl (cI, 3, .inl (fun _ => 0))), (q_4, .inl (cI, 6, .inl (fun _ => 0))), (q_5, .inl (cL, 243, .inr (.inl (fun _ => 0)))), (q_6, .inl (cL, 243, .inr (.inl (fun _ => 0)))), (q_7, .inl (cL, 500, .inr (.inl (fun _ => 0))))] H := hP
  have hD : va_D A [(aM, .inr (3, [.int 0, .ref q_1, .ref q_2, .ref q_3, .ref q_4, .int 0, .ref q_5, .ref q_6, .ref q_7, .null, .null, .null])), (q_1, .inl (cI, 3, .inl (fun _ => 0))), (q_2, .inl (cI, 3, .inl (fun _ => 0))), (q_3, .inl (cI, 3, .inl (fun _ => 0))), (q_4, .inl (cI, 6, .inl (fun _ => 0))), (q_5, .inl (cL, 243, .inr (.inl (fun _ => 0)))), (q_6, .inl (cL, 243, .inr (.inl (fun _ => 0)))), (q_7, .inl (cL, 500, .inr (.inl (fun _ => 0))))] := hD
  refine lv_aload_n hx hb d_M_init_60 rfl (lv_at hl 0 rfl) ?_
  refine lv_sipush (v := 500) hx hb d_M_init_61 (by decide) ?_
  refine nw_i (N' := 500) hx hb (ht_ hts mw59) hM hP hD hS hA (by decide) (by decide) (by decide) (Nat.le_of_ble_eq_true rfl) (Nat.le_of_ble_eq_true rfl) d_M_init_64 (fun q_8 H hP hD hS => ?_)
  have hP : va_P (dC, dI) vwCl [(aM, .inr (3, [.int 0, .ref q_1, .ref q_2, .ref q_3, .ref q_4, .int 0, .ref q_5, .ref q_6, .ref q_7, .null, .null, .null])), (q_1, .inl (cI, 3, .inl (fun _ => 0))), (q_2, .inl (cI, 3, .inl (fun _ => 0))), (q_3, .inl (cI, 3, .inl (fun _ => 0))), (q_4, .inl (cI, 6, .inl (fun _ => 0))), (q_5, .inl (cL, 243, .inr (.inl (fun _ => 0)))), (q_6, .inl (cL, 243, .inr (.inl (fun _ => 0)))), (q_7, .inl (cL, 500, .inr (.inl (fun _ => 0)))), (q_8, .inl (cI, 500, .inl (fun _ => 0)))] H := hP
  have hD : va_D A [(aM, .inr (3, [.int 0, .ref q_1, .ref q_2, .ref q_3, .ref q_4, .int 0, .ref q_5, .ref q_6, .ref q_7, .null, .null, .null])), (q_1, .inl (cI, 3, .inl (fun _ => 0))), (q_2, .inl (cI, 3, .inl (fun _ => 0))), (q_3, .inl (cI, 3, .inl (fun _ => 0))), (q_4, .inl (cI, 6, .inl (fun _ => 0))), (q_5, .inl (cL, 243, .inr (.inl (fun _ => 0)))), (q_6, .inl (cL, 243, .inr (.inl (fun _ => 0)))), (q_7, .inl (cL, 500, .inr (.inl (fun _ => 0)))), (q_8, .inl (cI, 500, .inl (fun _ => 0)))] := hD
  refine W.widen (k := 8) (n := 1501) (Nat.le_of_ble_eq_true rfl) (Nat.le_of_ble_eq_true rfl) ?_
  refine va_putF (D := (dC, dI)) (ci := 3) (v := .ref q_8) (ty := .array .int) (C := "RoomEchoesModel") (T := FT_M) (N := 12) hx hb hts (hi_ in_M) ty_M tyo_M nm_M hown hK hP hD hS 0 rfl rfl 9 (by decide) (ht_ hts mw433) (fun _ h9 => h9) rfl hin rfl (by decide +kernel) rfl rfl (Nat.le_of_ble_eq_true rfl) d_M_init_66 (fun H locs hP hD hS => ?_)
  have hP : va_P (dC, dI) vwCl [(aM, .inr (3, [.int 0, .ref q_1, .ref q_2, .ref q_3, .ref q_4, .int 0, .ref q_5, .ref q_6, .ref q_7, .ref q_8, .null, .null])), (q_1, .inl (cI, 3, .inl (fun _ => 0))), (q_2, .inl (cI, 3, .inl (fun _ => 0))), (q_3, .inl (cI, 3, .inl (fun _ => 0))), (q_4, .inl (cI, 6, .inl (fun _ => 0))), (q_5, .inl (cL, 243, .inr (.inl (fun _ => 0)))), (q_6, .inl (cL, 243, .inr (.inl (fun _ => 0)))), (q_7, .inl (cL, 500, .inr (.inl (fun _ => 0)))), (q_8, .inl (cI, 500, .inl (fun _ => 0)))] H := hP
  have hD : va_D A [(aM, .inr (3, [.int 0, .ref q_1, .ref q_2, .ref q_3, .ref q_4, .int 0, .ref q_5, .ref q_6, .ref q_7, .ref q_8, .null, .null])), (q_1, .inl (cI, 3, .inl (fun _ => 0))), (q_2, .inl (cI, 3, .inl (fun _ => 0))), (q_3, .inl (cI, 3, .inl (fun _ => 0))), (q_4, .inl (cI, 6, .inl (fun _ => 0))), (q_5, .inl (cL, 243, .inr (.inl (fun _ => 0)))), (q_6, .inl (cL, 243, .inr (.inl (fun _ => 0)))), (q_7, .inl (cL, 500, .inr (.inl (fun _ => 0)))), (q_8, .inl (cI, 500, .inl (fun _ => 0)))] := hD
  refine lv_aload_n hx hb d_M_init_69 rfl (lv_at hl 0 rfl) ?_
  refine lv_sipush (v := 500) hx hb d_M_init_70 (by decide) ?_
  refine nw_i (N' := 500) hx hb (ht_ hts mw59) hM hP hD hS hA (by decide) (by decide) (by decide) (Nat.le_of_ble_eq_true rfl) (Nat.le_of_ble_eq_true rfl) d_M_init_73 (fun q_9 H hP hD hS => ?_)
  have hP : va_P (dC, dI) vwCl [(aM, .inr (3, [.int 0, .ref q_1, .ref q_2, .ref q_3, .ref q_4, .int 0, .ref q_5, .ref q_6, .ref q_7, .ref q_8, .null, .null])), (q_1, .inl (cI, 3, .inl (fun _ => 0))), (q_2, .inl (cI, 3, .inl (fun _ => 0))), (q_3, .inl (cI, 3, .inl (fun _ => 0))), (q_4, .inl (cI, 6, .inl (fun _ => 0))), (q_5, .inl (cL, 243, .inr (.inl (fun _ => 0)))), (q_6, .inl (cL, 243, .inr (.inl (fun _ => 0)))), (q_7, .inl (cL, 500, .inr (.inl (fun _ => 0)))), (q_8, .inl (cI, 500, .inl (fun _ => 0))), (q_9, .inl (cI, 500, .inl (fun _ => 0)))] H := hP
  have hD : va_D A [(aM, .inr (3, [.int 0, .ref q_1, .ref q_2, .ref q_3, .ref q_4, .int 0, .ref q_5, .ref q_6, .ref q_7, .ref q_8, .null, .null])), (q_1, .inl (cI, 3, .inl (fun _ => 0))), (q_2, .inl (cI, 3, .inl (fun _ => 0))), (q_3, .inl (cI, 3, .inl (fun _ => 0))), (q_4, .inl (cI, 6, .inl (fun _ => 0))), (q_5, .inl (cL, 243, .inr (.inl (fun _ => 0)))), (q_6, .inl (cL, 243, .inr (.inl (fun _ => 0)))), (q_7, .inl (cL, 500, .inr (.inl (fun _ => 0)))), (q_8, .inl (cI, 500, .inl (fun _ => 0))), (q_9, .inl (cI, 500, .inl (fun _ => 0)))] := hD
  refine W.widen (k := 9) (n := 2001) (Nat.le_of_ble_eq_true rfl) (Nat.le_of_ble_eq_true rfl) ?_
  refine va_putF (D := (dC, dI)) (ci := 3) (v := .ref q_9) (ty := .array .int) (C := "RoomEchoesModel") (T := FT_M) (N := 12) hx hb hts (hi_ in_M) ty_M tyo_M nm_M hown hK hP hD hS 0 rfl rfl 10 (by decide) (ht_ hts mw434) (fun _ h9 => h9) rfl hin rfl (by decide +kernel) rfl rfl (Nat.le_of_ble_eq_true rfl) d_M_init_75 (fun H locs hP hD hS => ?_)
  have hP : va_P (dC, dI) vwCl [(aM, .inr (3, [.int 0, .ref q_1, .ref q_2, .ref q_3, .ref q_4, .int 0, .ref q_5, .ref q_6, .ref q_7, .ref q_8, .ref q_9, .null])), (q_1, .inl (cI, 3, .inl (fun _ => 0))), (q_2, .inl (cI, 3, .inl (fun _ => 0))), (q_3, .inl (cI, 3, .inl (fun _ => 0))), (q_4, .inl (cI, 6, .inl (fun _ => 0))), (q_5, .inl (cL, 243, .inr (.inl (fun _ => 0)))), (q_6, .inl (cL, 243, .inr (.inl (fun _ => 0)))), (q_7, .inl (cL, 500, .inr (.inl (fun _ => 0)))), (q_8, .inl (cI, 500, .inl (fun _ => 0))), (q_9, .inl (cI, 500, .inl (fun _ => 0)))] H := hP
  have hD : va_D A [(aM, .inr (3, [.int 0, .ref q_1, .ref q_2, .ref q_3, .ref q_4, .int 0, .ref q_5, .ref q_6, .ref q_7, .ref q_8, .ref q_9, .null])), (q_1, .inl (cI, 3, .inl (fun _ => 0))), (q_2, .inl (cI, 3, .inl (fun _ => 0))), (q_3, .inl (cI, 3, .inl (fun _ => 0))), (q_4, .inl (cI, 6, .inl (fun _ => 0))), (q_5, .inl (cL, 243, .inr (.inl (fun _ => 0)))), (q_6, .inl (cL, 243, .inr (.inl (fun _ => 0)))), (q_7, .inl (cL, 500, .inr (.inl (fun _ => 0)))), (q_8, .inl (cI, 500, .inl (fun _ => 0))), (q_9, .inl (cI, 500, .inl (fun _ => 0)))] := hD
  refine lv_aload_n hx hb d_M_init_78 rfl (lv_at hl 0 rfl) ?_
  refine lv_sipush (v := 500) hx hb d_M_init_79 (by decide) ?_
  refine nw_i (N' := 500) hx hb (ht_ hts mw59) hM hP hD hS hA (by decide) (by decide) (by decide) (Nat.le_of_ble_eq_true rfl) (Nat.le_of_ble_eq_true rfl) d_M_init_82 (fun q_10 H hP hD hS => ?_)
  have hP : va_P (dC, dI) vwCl [(aM, .inr (3, [.int 0, .ref q_1, .ref q_2, .ref q_3, .ref q_4, .int 0, .ref q_5, .ref q_6, .ref q_7, .ref q_8, .ref q_9, .null])), (q_1, .inl (cI, 3, .inl (fun _ => 0))), (q_2, .inl (cI, 3, .inl (fun _ => 0))), (q_3, .inl (cI, 3, .inl (fun _ => 0))), (q_4, .inl (cI, 6, .inl (fun _ => 0))), (q_5, .inl (cL, 243, .inr (.inl (fun _ => 0)))), (q_6, .inl (cL, 243, .inr (.inl (fun _ => 0)))), (q_7, .inl (cL, 500, .inr (.inl (fun _ => 0)))), (q_8, .inl (cI, 500, .inl (fun _ => 0))), (q_9, .inl (cI, 500, .inl (fun _ => 0))), (q_10, .inl (cI, 500, .inl (fun _ => 0)))] H := hP
  have hD : va_D A [(aM, .inr (3, [.int 0, .ref q_1, .ref q_2, .ref q_3, .ref q_4, .int 0, .ref q_5, .ref q_6, .ref q_7, .ref q_8, .ref q_9, .null])), (q_1, .inl (cI, 3, .inl (fun _ => 0))), (q_2, .inl (cI, 3, .inl (fun _ => 0))), (q_3, .inl (cI, 3, .inl (fun _ => 0))), (q_4, .inl (cI, 6, .inl (fun _ => 0))), (q_5, .inl (cL, 243, .inr (.inl (fun _ => 0)))), (q_6, .inl (cL, 243, .inr (.inl (fun _ => 0)))), (q_7, .inl (cL, 500, .inr (.inl (fun _ => 0)))), (q_8, .inl (cI, 500, .inl (fun _ => 0))), (q_9, .inl (cI, 500, .inl (fun _ => 0))), (q_10, .inl (cI, 500, .inl (fun _ => 0)))] := hD
  refine W.widen (k := 10) (n := 2501) (Nat.le_of_ble_eq_true rfl) (Nat.le_of_ble_eq_true rfl) ?_
  refine va_putF (D := (dC, dI)) (ci := 3) (v := .ref q_10) (ty := .array .int) (C := "RoomEchoesModel") (T := FT_M) (N := 12) hx hb hts (hi_ in_M) ty_M tyo_M nm_M hown hK hP hD hS 0 rfl rfl 11 (by decide) (ht_ hts mw435) (fun _ h9 => h9) rfl hin rfl (by decide +kernel) rfl rfl (Nat.le_of_ble_eq_true rfl) d_M_init_84 (fun H locs hP hD hS => ?_)
  have hP : va_P (dC, dI) vwCl [(aM, .inr (3, [.int 0, .ref q_1, .ref q_2, .ref q_3, .ref q_4, .int 0, .ref q_5, .ref q_6, .ref q_7, .ref q_8, .ref q_9, .ref q_10])), (q_1, .inl (cI, 3, .inl (fun _ => 0))), (q_2, .inl (cI, 3, .inl (fun _ => 0))), (q_3, .inl (cI, 3, .inl (fun _ => 0))), (q_4, .inl (cI, 6, .inl (fun _ => 0))), (q_5, .inl (cL, 243, .inr (.inl (fun _ => 0)))), (q_6, .inl (cL, 243, .inr (.inl (fun _ => 0)))), (q_7, .inl (cL, 500, .inr (.inl (fun _ => 0)))), (q_8, .inl (cI, 500, .inl (fun _ => 0))), (q_9, .inl (cI, 500, .inl (fun _ => 0))), (q_10, .inl (cI, 500, .inl (fun _ => 0)))] H := hP
  have hD : va_D A [(aM, .inr (3, [.int 0, .ref q_1, .ref q_2, .ref q_3, .ref q_4, .int 0, .ref q_5, .ref q_6, .ref q_7, .ref q_8, .ref q_9, .ref q_10])), (q_1, .inl (cI, 3, .inl (fun _ => 0))), (q_2, .inl (cI, 3, .inl (fun _ => 0))), (q_3, .inl (cI, 3, .inl (fun _ => 0))), (q_4, .inl (cI, 6, .inl (fun _ => 0))), (q_5, .inl (cL, 243, .inr (.inl (fun _ => 0)))), (q_6, .inl (cL, 243, .inr (.inl (fun _ => 0)))), (q_7, .inl (cL, 500, .inr (.inl (fun _ => 0)))), (q_8, .inl (cI, 500, .inl (fun _ => 0))), (q_9, .inl (cI, 500, .inl (fun _ => 0))), (q_10, .inl (cI, 500, .inl (fun _ => 0)))] := hD
  refine lv_aload_n hx hb d_M_init_87 rfl (lv_at hl 0 rfl) ?_
  refine va_get (D := (dC, dI)) (ci := 3) (v := .ref q_1) (C := "RoomEchoesModel") (T := FT_M) (N := 12) hx hb hts (hi_ in_M) hown hK hP 0 rfl rfl 1 (by decide) (ht_ hts mw425) (fun _ h9 => h9) rfl d_M_init_88 ?_
  refine lv_iconst (v := 0) hx hb d_M_init_91 (by decide) ?_
  have jn_115 : ∀ v9 : Int32, v9 = j_cz x → W p l e (headSpec w_M_init ({ frames := 1, cells := 10, slots := 2501, locals := 12 })).room s m ([.ref aM, .int x, .int y, .int z] : List Value).toArray below meth c H locs 10 2501 (MQ below (va_Qv (fun (u : (Nat) × (Nat) × (Nat) × (Nat) × (Nat) × (Nat) × (Nat) × (Nat) × (Nat) × (Nat)) => True) (fun u t => va_P (dC, dI) vwCl [(aM, .inr (3, [.int 0, .ref u.1, .ref u.2.1, .ref u.2.2.1, .ref u.2.2.2.1, .int 0, .ref u.2.2.2.2.1, .ref u.2.2.2.2.2.1, .ref u.2.2.2.2.2.2.1, .ref u.2.2.2.2.2.2.2.1, .ref u.2.2.2.2.2.2.2.2.1, .ref u.2.2.2.2.2.2.2.2.2])), (u.1, .inl (cI, 3, .inl (upd (upd (upd (fun _ => 0) 0 (j_cz x)) 1 (j_cz y)) 2 (j_cz z)))), (u.2.1, .inl (cI, 3, .inl (fun _ => 0))), (u.2.2.1, .inl (cI, 3, .inl (fun _ => 0))), (u.2.2.2.2.1, .inl (cL, 243, .inr (.inl (fun _ => 0)))), (u.2.2.2.2.2.1, .inl (cL, 243, .inr (.inl (fun _ => 0)))), (u.2.2.2.2.2.2.1, .inl (cL, 500, .inr (.inl (fun _ => 0)))), (u.2.2.2.2.2.2.2.1, .inl (cI, 500, .inl (fun _ => 0))), (u.2.2.2.2.2.2.2.2.1, .inl (cI, 500, .inl (fun _ => 0))), (u.2.2.2.2.2.2.2.2.2, .inl (cI, 500, .inl (fun _ => 0))), (u.2.2.2.1, .inl (cI, 6, .inl (kpi 6)))] t.heap ∧ va_D A [(aM, .inr (3, [.int 0, .ref u.1, .ref u.2.1, .ref u.2.2.1, .ref u.2.2.2.1, .int 0, .ref u.2.2.2.2.1, .ref u.2.2.2.2.2.1, .ref u.2.2.2.2.2.2.1, .ref u.2.2.2.2.2.2.2.1, .ref u.2.2.2.2.2.2.2.2.1, .ref u.2.2.2.2.2.2.2.2.2])), (u.1, .inl (cI, 3, .inl (upd (upd (upd (fun _ => 0) 0 (j_cz x)) 1 (j_cz y)) 2 (j_cz z)))), (u.2.1, .inl (cI, 3, .inl (fun _ => 0))), (u.2.2.1, .inl (cI, 3, .inl (fun _ => 0))), (u.2.2.2.2.1, .inl (cL, 243, .inr (.inl (fun _ => 0)))), (u.2.2.2.2.2.1, .inl (cL, 243, .inr (.inl (fun _ => 0)))), (u.2.2.2.2.2.2.1, .inl (cL, 500, .inr (.inl (fun _ => 0)))), (u.2.2.2.2.2.2.2.1, .inl (cI, 500, .inl (fun _ => 0))), (u.2.2.2.2.2.2.2.2.1, .inl (cI, 500, .inl (fun _ => 0))), (u.2.2.2.2.2.2.2.2.2, .inl (cI, 500, .inl (fun _ => 0))), (u.2.2.2.1, .inl (cI, 6, .inl (kpi 6)))]) A) ([.ref aM, .int x, .int y, .int z] : List Value).toArray s 10 2501 A) (F0 m 115 ls (.int v9 :: [.int 0, .ref q_1])) := by
    intro v9 hv9
    subst hv9
    refine va_iast hx hb hK hP hD hS 1 0 rfl rfl (by unfold vp_in; decide) d_M_init_115 (fun H locs hP hD hS => ?_)
    have hP : va_P (dC, dI) vwCl [(aM, .inr (3, [.int 0, .ref q_1, .ref q_2, .ref q_3, .ref q_4, .int 0, .ref q_5, .ref q_6, .ref q_7, .ref q_8, .ref q_9, .ref q_10])), (q_1, .inl (cI, 3, .inl (upd (fun _ => 0) 0 (j_cz x)))), (q_2, .inl (cI, 3, .inl (fun _ => 0))), (q_3, .inl (cI, 3, .inl (fun _ => 0))), (q_4, .inl (cI, 6, .inl (fun _ => 0))), (q_5, .inl (cL, 243, .inr (.inl (fun _ => 0)))), (q_6, .inl (cL, 243, .inr (.inl (fun _ => 0)))), (q_7, .inl (cL, 500, .inr (.inl (fun _ => 0)))), (q_8, .inl (cI, 500, .inl (fun _ => 0))), (q_9, .inl (cI, 500, .inl (fun _ => 0))), (q_10, .inl (cI, 500, .inl (fun _ => 0)))] H := hP
    have hD : va_D A [(aM, .inr (3, [.int 0, .ref q_1, .ref q_2, .ref q_3, .ref q_4, .int 0, .ref q_5, .ref q_6, .ref q_7, .ref q_8, .ref q_9, .ref q_10])), (q_1, .inl (cI, 3, .inl (upd (fun _ => 0) 0 (j_cz x)))), (q_2, .inl (cI, 3, .inl (fun _ => 0))), (q_3, .inl (cI, 3, .inl (fun _ => 0))), (q_4, .inl (cI, 6, .inl (fun _ => 0))), (q_5, .inl (cL, 243, .inr (.inl (fun _ => 0)))), (q_6, .inl (cL, 243, .inr (.inl (fun _ => 0)))), (q_7, .inl (cL, 500, .inr (.inl (fun _ => 0)))), (q_8, .inl (cI, 500, .inl (fun _ => 0))), (q_9, .inl (cI, 500, .inl (fun _ => 0))), (q_10, .inl (cI, 500, .inl (fun _ => 0)))] := hD
    refine lv_aload_n hx hb d_M_init_116 rfl (lv_at hl 0 rfl) ?_
    refine va_get (D := (dC, dI)) (ci := 3) (v := .ref q_1) (C := "RoomEchoesModel") (T := FT_M) (N := 12) hx hb hts (hi_ in_M) hown hK hP 0 rfl rfl 1 (by decide) (ht_ hts mw425) (fun _ h9 => h9) rfl d_M_init_117 ?_
    refine lv_iconst (v := 1) hx hb d_M_init_120 (by decide) ?_
    have jn_144 : ∀ v9 : Int32, v9 = j_cz y → W p l e (headSpec w_M_init ({ frames := 1, cells := 10, slots := 2501, locals := 12 })).room s m ([.ref aM, .int x, .int y, .int z] : List Value).toArray below meth c H locs 10 2501 (MQ below (va_Qv (fun (u : (Nat) × (Nat) × (Nat) × (Nat) × (Nat) × (Nat) × (Nat) × (Nat) × (Nat) × (Nat)) => True) (fun u t => va_P (dC, dI) vwCl [(aM, .inr (3, [.int 0, .ref u.1, .ref u.2.1, .ref u.2.2.1, .ref u.2.2.2.1, .int 0, .ref u.2.2.2.2.1, .ref u.2.2.2.2.2.1, .ref u.2.2.2.2.2.2.1, .ref u.2.2.2.2.2.2.2.1, .ref u.2.2.2.2.2.2.2.2.1, .ref u.2.2.2.2.2.2.2.2.2])), (u.1, .inl (cI, 3, .inl (upd (upd (upd (fun _ => 0) 0 (j_cz x)) 1 (j_cz y)) 2 (j_cz z)))), (u.2.1, .inl (cI, 3, .inl (fun _ => 0))), (u.2.2.1, .inl (cI, 3, .inl (fun _ => 0))), (u.2.2.2.2.1, .inl (cL, 243, .inr (.inl (fun _ => 0)))), (u.2.2.2.2.2.1, .inl (cL, 243, .inr (.inl (fun _ => 0)))), (u.2.2.2.2.2.2.1, .inl (cL, 500, .inr (.inl (fun _ => 0)))), (u.2.2.2.2.2.2.2.1, .inl (cI, 500, .inl (fun _ => 0))), (u.2.2.2.2.2.2.2.2.1, .inl (cI, 500, .inl (fun _ => 0))), (u.2.2.2.2.2.2.2.2.2, .inl (cI, 500, .inl (fun _ => 0))), (u.2.2.2.1, .inl (cI, 6, .inl (kpi 6)))] t.heap ∧ va_D A [(aM, .inr (3, [.int 0, .ref u.1, .ref u.2.1, .ref u.2.2.1, .ref u.2.2.2.1, .int 0, .ref u.2.2.2.2.1, .ref u.2.2.2.2.2.1, .ref u.2.2.2.2.2.2.1, .ref u.2.2.2.2.2.2.2.1, .ref u.2.2.2.2.2.2.2.2.1, .ref u.2.2.2.2.2.2.2.2.2])), (u.1, .inl (cI, 3, .inl (upd (upd (upd (fun _ => 0) 0 (j_cz x)) 1 (j_cz y)) 2 (j_cz z)))), (u.2.1, .inl (cI, 3, .inl (fun _ => 0))), (u.2.2.1, .inl (cI, 3, .inl (fun _ => 0))), (u.2.2.2.2.1, .inl (cL, 243, .inr (.inl (fun _ => 0)))), (u.2.2.2.2.2.1, .inl (cL, 243, .inr (.inl (fun _ => 0)))), (u.2.2.2.2.2.2.1, .inl (cL, 500, .inr (.inl (fun _ => 0)))), (u.2.2.2.2.2.2.2.1, .inl (cI, 500, .inl (fun _ => 0))), (u.2.2.2.2.2.2.2.2.1, .inl (cI, 500, .inl (fun _ => 0))), (u.2.2.2.2.2.2.2.2.2, .inl (cI, 500, .inl (fun _ => 0))), (u.2.2.2.1, .inl (cI, 6, .inl (kpi 6)))]) A) ([.ref aM, .int x, .int y, .int z] : List Value).toArray s 10 2501 A) (F0 m 144 ls (.int v9 :: [.int 1, .ref q_1])) := by
      intro v9 hv9
      subst hv9
      refine va_iast hx hb hK hP hD hS 1 0 rfl rfl (by unfold vp_in; decide) d_M_init_144 (fun H locs hP hD hS => ?_)
      have hP : va_P (dC, dI) vwCl [(aM, .inr (3, [.int 0, .ref q_1, .ref q_2, .ref q_3, .ref q_4, .int 0, .ref q_5, .ref q_6, .ref q_7, .ref q_8, .ref q_9, .ref q_10])), (q_1, .inl (cI, 3, .inl (upd (upd (fun _ => 0) 0 (j_cz x)) 1 (j_cz y)))), (q_2, .inl (cI, 3, .inl (fun _ => 0))), (q_3, .inl (cI, 3, .inl (fun _ => 0))), (q_4, .inl (cI, 6, .inl (fun _ => 0))), (q_5, .inl (cL, 243, .inr (.inl (fun _ => 0)))), (q_6, .inl (cL, 243, .inr (.inl (fun _ => 0)))), (q_7, .inl (cL, 500, .inr (.inl (fun _ => 0)))), (q_8, .inl (cI, 500, .inl (fun _ => 0))), (q_9, .inl (cI, 500, .inl (fun _ => 0))), (q_10, .inl (cI, 500, .inl (fun _ => 0)))] H := hP
      have hD : va_D A [(aM, .inr (3, [.int 0, .ref q_1, .ref q_2, .ref q_3, .ref q_4, .int 0, .ref q_5, .ref q_6, .ref q_7, .ref q_8, .ref q_9, .ref q_10])), (q_1, .inl (cI, 3, .inl (upd (upd (fun _ => 0) 0 (j_cz x)) 1 (j_cz y)))), (q_2, .inl (cI, 3, .inl (fun _ => 0))), (q_3, .inl (cI, 3, .inl (fun _ => 0))), (q_4, .inl (cI, 6, .inl (fun _ => 0))), (q_5, .inl (cL, 243, .inr (.inl (fun _ => 0)))), (q_6, .inl (cL, 243, .inr (.inl (fun _ => 0)))), (q_7, .inl (cL, 500, .inr (.inl (fun _ => 0)))), (q_8, .inl (cI, 500, .inl (fun _ => 0))), (q_9, .inl (cI, 500, .inl (fun _ => 0))), (q_10, .inl (cI, 500, .inl (fun _ => 0)))] := hD
      refine lv_aload_n hx hb d_M_init_145 rfl (lv_at hl 0 rfl) ?_
      refine va_get (D := (dC, dI)) (ci := 3) (v := .ref q_1) (C := "RoomEchoesModel") (T := FT_M) (N := 12) hx hb hts (hi_ in_M) hown hK hP 0 rfl rfl 1 (by decide) (ht_ hts mw425) (fun _ h9 => h9) rfl d_M_init_146 ?_
      refine lv_iconst (v := 2) hx hb d_M_init_149 (by decide) ?_
      have jn_173 : ∀ v9 : Int32, v9 = j_cz z → W p l e (headSpec w_M_init ({ frames := 1, cells := 10, slots := 2501, locals := 12 })).room s m ([.ref aM, .int x, .int y, .int z] : List Value).toArray below meth c H locs 10 2501 (MQ below (va_Qv (fun (u : (Nat) × (Nat) × (Nat) × (Nat) × (Nat) × (Nat) × (Nat) × (Nat) × (Nat) × (Nat)) => True) (fun u t => va_P (dC, dI) vwCl [(aM, .inr (3, [.int 0, .ref u.1, .ref u.2.1, .ref u.2.2.1, .ref u.2.2.2.1, .int 0, .ref u.2.2.2.2.1, .ref u.2.2.2.2.2.1, .ref u.2.2.2.2.2.2.1, .ref u.2.2.2.2.2.2.2.1, .ref u.2.2.2.2.2.2.2.2.1, .ref u.2.2.2.2.2.2.2.2.2])), (u.1, .inl (cI, 3, .inl (upd (upd (upd (fun _ => 0) 0 (j_cz x)) 1 (j_cz y)) 2 (j_cz z)))), (u.2.1, .inl (cI, 3, .inl (fun _ => 0))), (u.2.2.1, .inl (cI, 3, .inl (fun _ => 0))), (u.2.2.2.2.1, .inl (cL, 243, .inr (.inl (fun _ => 0)))), (u.2.2.2.2.2.1, .inl (cL, 243, .inr (.inl (fun _ => 0)))), (u.2.2.2.2.2.2.1, .inl (cL, 500, .inr (.inl (fun _ => 0)))), (u.2.2.2.2.2.2.2.1, .inl (cI, 500, .inl (fun _ => 0))), (u.2.2.2.2.2.2.2.2.1, .inl (cI, 500, .inl (fun _ => 0))), (u.2.2.2.2.2.2.2.2.2, .inl (cI, 500, .inl (fun _ => 0))), (u.2.2.2.1, .inl (cI, 6, .inl (kpi 6)))] t.heap ∧ va_D A [(aM, .inr (3, [.int 0, .ref u.1, .ref u.2.1, .ref u.2.2.1, .ref u.2.2.2.1, .int 0, .ref u.2.2.2.2.1, .ref u.2.2.2.2.2.1, .ref u.2.2.2.2.2.2.1, .ref u.2.2.2.2.2.2.2.1, .ref u.2.2.2.2.2.2.2.2.1, .ref u.2.2.2.2.2.2.2.2.2])), (u.1, .inl (cI, 3, .inl (upd (upd (upd (fun _ => 0) 0 (j_cz x)) 1 (j_cz y)) 2 (j_cz z)))), (u.2.1, .inl (cI, 3, .inl (fun _ => 0))), (u.2.2.1, .inl (cI, 3, .inl (fun _ => 0))), (u.2.2.2.2.1, .inl (cL, 243, .inr (.inl (fun _ => 0)))), (u.2.2.2.2.2.1, .inl (cL, 243, .inr (.inl (fun _ => 0)))), (u.2.2.2.2.2.2.1, .inl (cL, 500, .inr (.inl (fun _ => 0)))), (u.2.2.2.2.2.2.2.1, .inl (cI, 500, .inl (fun _ => 0))), (u.2.2.2.2.2.2.2.2.1, .inl (cI, 500, .inl (fun _ => 0))), (u.2.2.2.2.2.2.2.2.2, .inl (cI, 500, .inl (fun _ => 0))), (u.2.2.2.1, .inl (cI, 6, .inl (kpi 6)))]) A) ([.ref aM, .int x, .int y, .int z] : List Value).toArray s 10 2501 A) (F0 m 173 ls (.int v9 :: [.int 2, .ref q_1])) := by
        intro v9 hv9
        subst hv9
        refine va_iast hx hb hK hP hD hS 1 0 rfl rfl (by unfold vp_in; decide) d_M_init_173 (fun H locs hP hD hS => ?_)
        have hP : va_P (dC, dI) vwCl [(aM, .inr (3, [.int 0, .ref q_1, .ref q_2, .ref q_3, .ref q_4, .int 0, .ref q_5, .ref q_6, .ref q_7, .ref q_8, .ref q_9, .ref q_10])), (q_1, .inl (cI, 3, .inl (upd (upd (upd (fun _ => 0) 0 (j_cz x)) 1 (j_cz y)) 2 (j_cz z)))), (q_2, .inl (cI, 3, .inl (fun _ => 0))), (q_3, .inl (cI, 3, .inl (fun _ => 0))), (q_4, .inl (cI, 6, .inl (fun _ => 0))), (q_5, .inl (cL, 243, .inr (.inl (fun _ => 0)))), (q_6, .inl (cL, 243, .inr (.inl (fun _ => 0)))), (q_7, .inl (cL, 500, .inr (.inl (fun _ => 0)))), (q_8, .inl (cI, 500, .inl (fun _ => 0))), (q_9, .inl (cI, 500, .inl (fun _ => 0))), (q_10, .inl (cI, 500, .inl (fun _ => 0)))] H := hP
        have hD : va_D A [(aM, .inr (3, [.int 0, .ref q_1, .ref q_2, .ref q_3, .ref q_4, .int 0, .ref q_5, .ref q_6, .ref q_7, .ref q_8, .ref q_9, .ref q_10])), (q_1, .inl (cI, 3, .inl (upd (upd (upd (fun _ => 0) 0 (j_cz x)) 1 (j_cz y)) 2 (j_cz z)))), (q_2, .inl (cI, 3, .inl (fun _ => 0))), (q_3, .inl (cI, 3, .inl (fun _ => 0))), (q_4, .inl (cI, 6, .inl (fun _ => 0))), (q_5, .inl (cL, 243, .inr (.inl (fun _ => 0)))), (q_6, .inl (cL, 243, .inr (.inl (fun _ => 0)))), (q_7, .inl (cL, 500, .inr (.inl (fun _ => 0)))), (q_8, .inl (cI, 500, .inl (fun _ => 0))), (q_9, .inl (cI, 500, .inl (fun _ => 0))), (q_10, .inl (cI, 500, .inl (fun _ => 0)))] := hD
        refine lv_iconst (v := 0) hx hb d_M_init_174 (by decide) ?_
        refine lv_istore (lv' := [(4, .int 0), (0, .ref aM), (1, .int x), (2, .int y), (3, .int z)]) hx hb d_M_init_175 hl (by decide) rfl (fun ls hl => ?_)
        have lp : ∀ (n9 : Nat) (k : Nat), 6 < k + n9 → k ≤ 6 → ∀ (H : Heap) (locs : List Loc), va_P (dC, dI) vwCl [(aM, .inr (3, [.int 0, .ref q_1, .ref q_2, .ref q_3, .ref q_4, .int 0, .ref q_5, .ref q_6, .ref q_7, .ref q_8, .ref q_9, .ref q_10])), (q_1, .inl (cI, 3, .inl (upd (upd (upd (fun _ => 0) 0 (j_cz x)) 1 (j_cz y)) 2 (j_cz z)))), (q_2, .inl (cI, 3, .inl (fun _ => 0))), (q_3, .inl (cI, 3, .inl (fun _ => 0))), (q_4, .inl (cI, 6, .inl (kpi k))), (q_5, .inl (cL, 243, .inr (.inl (fun _ => 0)))), (q_6, .inl (cL, 243, .inr (.inl (fun _ => 0)))), (q_7, .inl (cL, 500, .inr (.inl (fun _ => 0)))), (q_8, .inl (cI, 500, .inl (fun _ => 0))), (q_9, .inl (cI, 500, .inl (fun _ => 0))), (q_10, .inl (cI, 500, .inl (fun _ => 0)))] H → va_D A [(aM, .inr (3, [.int 0, .ref q_1, .ref q_2, .ref q_3, .ref q_4, .int 0, .ref q_5, .ref q_6, .ref q_7, .ref q_8, .ref q_9, .ref q_10])), (q_1, .inl (cI, 3, .inl (upd (upd (upd (fun _ => 0) 0 (j_cz x)) 1 (j_cz y)) 2 (j_cz z)))), (q_2, .inl (cI, 3, .inl (fun _ => 0))), (q_3, .inl (cI, 3, .inl (fun _ => 0))), (q_4, .inl (cI, 6, .inl (kpi k))), (q_5, .inl (cL, 243, .inr (.inl (fun _ => 0)))), (q_6, .inl (cL, 243, .inr (.inl (fun _ => 0)))), (q_7, .inl (cL, 500, .inr (.inl (fun _ => 0)))), (q_8, .inl (cI, 500, .inl (fun _ => 0))), (q_9, .inl (cI, 500, .inl (fun _ => 0))), (q_10, .inl (cI, 500, .inl (fun _ => 0)))] → va_S A s.heap H locs → ∀ (ls : Array Slot), lv_has ls 5 [(4, .int (nI k)), (0, .ref aM)] → W p l e (headSpec w_M_init ({ frames := 1, cells := 10, slots := 2501, locals := 12 })).room s m ([.ref aM, .int x, .int y, .int z] : List Value).toArray below meth c H locs 10 2501 (MQ below (va_Qv (fun (u : (Nat) × (Nat) × (Nat) × (Nat) × (Nat) × (Nat) × (Nat) × (Nat) × (Nat) × (Nat)) => True) (fun u t => va_P (dC, dI) vwCl [(aM, .inr (3, [.int 0, .ref u.1, .ref u.2.1, .ref u.2.2.1, .ref u.2.2.2.1, .int 0, .ref u.2.2.2.2.1, .ref u.2.2.2.2.2.1, .ref u.2.2.2.2.2.2.1, .ref u.2.2.2.2.2.2.2.1, .ref u.2.2.2.2.2.2.2.2.1, .ref u.2.2.2.2.2.2.2.2.2])), (u.1, .inl (cI, 3, .inl (upd (upd (upd (fun _ => 0) 0 (j_cz x)) 1 (j_cz y)) 2 (j_cz z)))), (u.2.1, .inl (cI, 3, .inl (fun _ => 0))), (u.2.2.1, .inl (cI, 3, .inl (fun _ => 0))), (u.2.2.2.2.1, .inl (cL, 243, .inr (.inl (fun _ => 0)))), (u.2.2.2.2.2.1, .inl (cL, 243, .inr (.inl (fun _ => 0)))), (u.2.2.2.2.2.2.1, .inl (cL, 500, .inr (.inl (fun _ => 0)))), (u.2.2.2.2.2.2.2.1, .inl (cI, 500, .inl (fun _ => 0))), (u.2.2.2.2.2.2.2.2.1, .inl (cI, 500, .inl (fun _ => 0))), (u.2.2.2.2.2.2.2.2.2, .inl (cI, 500, .inl (fun _ => 0))), (u.2.2.2.1, .inl (cI, 6, .inl (kpi 6)))] t.heap ∧ va_D A [(aM, .inr (3, [.int 0, .ref u.1, .ref u.2.1, .ref u.2.2.1, .ref u.2.2.2.1, .int 0, .ref u.2.2.2.2.1, .ref u.2.2.2.2.2.1, .ref u.2.2.2.2.2.2.1, .ref u.2.2.2.2.2.2.2.1, .ref u.2.2.2.2.2.2.2.2.1, .ref u.2.2.2.2.2.2.2.2.2])), (u.1, .inl (cI, 3, .inl (upd (upd (upd (fun _ => 0) 0 (j_cz x)) 1 (j_cz y)) 2 (j_cz z)))), (u.2.1, .inl (cI, 3, .inl (fun _ => 0))), (u.2.2.1, .inl (cI, 3, .inl (fun _ => 0))), (u.2.2.2.2.1, .inl (cL, 243, .inr (.inl (fun _ => 0)))), (u.2.2.2.2.2.1, .inl (cL, 243, .inr (.inl (fun _ => 0)))), (u.2.2.2.2.2.2.1, .inl (cL, 500, .inr (.inl (fun _ => 0)))), (u.2.2.2.2.2.2.2.1, .inl (cI, 500, .inl (fun _ => 0))), (u.2.2.2.2.2.2.2.2.1, .inl (cI, 500, .inl (fun _ => 0))), (u.2.2.2.2.2.2.2.2.2, .inl (cI, 500, .inl (fun _ => 0))), (u.2.2.2.1, .inl (cI, 6, .inl (kpi 6)))]) A) ([.ref aM, .int x, .int y, .int z] : List Value).toArray s 10 2501 A) (F0 m 177 ls []) := by
          intro n9
          induction n9 with
          | zero => intro k hn hk H locs hP hD hS ls hl; omega
          | succ n9 ih =>
            intro k hn hk H locs hP hD hS ls hl
            refine lv_iload hx hb d_M_init_177 (lv_at hl 0 rfl) ?_
            refine lv_bipush (v := 6) hx hb d_M_init_179 (by decide) ?_
            refine lv_icmp_ge (tgt := 200) hx hb d_M_init_181 (by decide) (fun c_181 => ?_) (fun c_181 => ?_)
            · skip
              have k5 : k = 6 := by have : 6 ≤ k := nu_end (x := 6) (by omega) c_181; omega
              subst k5
              have hP9 := hP.sub (ws' := [(aM, .inr (3, [.int 0, .ref q_1, .ref q_2, .ref q_3, .ref q_4, .int 0, .ref q_5, .ref q_6, .ref q_7, .ref q_8, .ref q_9, .ref q_10])), (q_1, .inl (cI, 3, .inl (upd (upd (upd (fun _ => 0) 0 (j_cz x)) 1 (j_cz y)) 2 (j_cz z)))), (q_2, .inl (cI, 3, .inl (fun _ => 0))), (q_3, .inl (cI, 3, .inl (fun _ => 0))), (q_5, .inl (cL, 243, .inr (.inl (fun _ => 0)))), (q_6, .inl (cL, 243, .inr (.inl (fun _ => 0)))), (q_7, .inl (cL, 500, .inr (.inl (fun _ => 0)))), (q_8, .inl (cI, 500, .inl (fun _ => 0))), (q_9, .inl (cI, 500, .inl (fun _ => 0))), (q_10, .inl (cI, 500, .inl (fun _ => 0))), (q_4, .inl (cI, 6, .inl (kpi 6)))]) [0, 1, 2, 3, 5, 6, 7, 8, 9, 10, 4] rfl
              have hD9 := hD.sub (ws' := [(aM, .inr (3, [.int 0, .ref q_1, .ref q_2, .ref q_3, .ref q_4, .int 0, .ref q_5, .ref q_6, .ref q_7, .ref q_8, .ref q_9, .ref q_10])), (q_1, .inl (cI, 3, .inl (upd (upd (upd (fun _ => 0) 0 (j_cz x)) 1 (j_cz y)) 2 (j_cz z)))), (q_2, .inl (cI, 3, .inl (fun _ => 0))), (q_3, .inl (cI, 3, .inl (fun _ => 0))), (q_5, .inl (cL, 243, .inr (.inl (fun _ => 0)))), (q_6, .inl (cL, 243, .inr (.inl (fun _ => 0)))), (q_7, .inl (cL, 500, .inr (.inl (fun _ => 0)))), (q_8, .inl (cI, 500, .inl (fun _ => 0))), (q_9, .inl (cI, 500, .inl (fun _ => 0))), (q_10, .inl (cI, 500, .inl (fun _ => 0))), (q_4, .inl (cI, 6, .inl (kpi 6)))]) [0, 1, 2, 3, 5, 6, 7, 8, 9, 10, 4] (by decide) rfl
              exact W.vret hx hb hr (fun t ht hW => ⟨⟨(q_1, q_2, q_3, q_4, q_5, q_6, q_7, q_8, q_9, q_10), rfl, trivial, by rw [ht]; exact hP9, hD9⟩, hS.F ht⟩) hS.2.2 d_M_init_200
            · skip
              have k5 : k < 6 := nu_on (x := 6) (by omega) c_181
              refine lv_aload_n hx hb d_M_init_184 rfl (lv_at hl 1 rfl) ?_
              refine va_get (D := (dC, dI)) (ci := 3) (v := .ref q_4) (C := "RoomEchoesModel") (T := FT_M) (N := 12) hx hb hts (hi_ in_M) hown hK hP 0 rfl rfl 4 (by decide) (ht_ hts mw428) (fun _ h9 => h9) rfl d_M_init_185 ?_
              refine lv_iload hx hb d_M_init_188 (lv_at hl 0 rfl) ?_
              refine lv_sipush (v := 900) hx hb d_M_init_190 (by decide) ?_
              refine va_iast hx hb hK hP hD hS 4 0 rfl rfl (vp_in_nI (by omega) (by omega)) d_M_init_193 (fun H locs hP hD hS => ?_)
              rw [nI_clamp (n := k) (by omega)] at hP hD
              have hP : va_P (dC, dI) vwCl [(aM, .inr (3, [.int 0, .ref q_1, .ref q_2, .ref q_3, .ref q_4, .int 0, .ref q_5, .ref q_6, .ref q_7, .ref q_8, .ref q_9, .ref q_10])), (q_1, .inl (cI, 3, .inl (upd (upd (upd (fun _ => 0) 0 (j_cz x)) 1 (j_cz y)) 2 (j_cz z)))), (q_2, .inl (cI, 3, .inl (fun _ => 0))), (q_3, .inl (cI, 3, .inl (fun _ => 0))), (q_4, .inl (cI, 6, .inl (upd (kpi k) k 900))), (q_5, .inl (cL, 243, .inr (.inl (fun _ => 0)))), (q_6, .inl (cL, 243, .inr (.inl (fun _ => 0)))), (q_7, .inl (cL, 500, .inr (.inl (fun _ => 0)))), (q_8, .inl (cI, 500, .inl (fun _ => 0))), (q_9, .inl (cI, 500, .inl (fun _ => 0))), (q_10, .inl (cI, 500, .inl (fun _ => 0)))] H := hP
              have hD : va_D A [(aM, .inr (3, [.int 0, .ref q_1, .ref q_2, .ref q_3, .ref q_4, .int 0, .ref q_5, .ref q_6, .ref q_7, .ref q_8, .ref q_9, .ref q_10])), (q_1, .inl (cI, 3, .inl (upd (upd (upd (fun _ => 0) 0 (j_cz x)) 1 (j_cz y)) 2 (j_cz z)))), (q_2, .inl (cI, 3, .inl (fun _ => 0))), (q_3, .inl (cI, 3, .inl (fun _ => 0))), (q_4, .inl (cI, 6, .inl (upd (kpi k) k 900))), (q_5, .inl (cL, 243, .inr (.inl (fun _ => 0)))), (q_6, .inl (cL, 243, .inr (.inl (fun _ => 0)))), (q_7, .inl (cL, 500, .inr (.inl (fun _ => 0)))), (q_8, .inl (cI, 500, .inl (fun _ => 0))), (q_9, .inl (cI, 500, .inl (fun _ => 0))), (q_10, .inl (cI, 500, .inl (fun _ => 0)))] := hD
              refine lv_iinc (v := nI (k + 1)) (lv' := [(4, .int (nI (k + 1))), (0, .ref aM)]) hx hb d_M_init_194 hl (k := 0) rfl (nI_succ _).symm (by decide) rfl (fun ls hl => ?_)
              refine lv_goto (tgt := 177) hx hb d_M_init_197 (by decide) ?_
              exact ih (k + 1) (by omega) (by omega) _ _ hP hD hS ls (lv_sub hl [0, 1] rfl)
        exact lp 7 0 (by omega) (by omega) _ _ hP hD hS ls (lv_sub hl [0, 1] rfl)
      refine lv_iload_n hx hb d_M_init_150 rfl (lv_at hl 3 rfl) ?_
      refine lv_iconst (v := 1) hx hb d_M_init_151 (by decide) ?_
      refine lv_icmp_ge (tgt := 159) hx hb d_M_init_152 (by decide) (fun c_152 => ?_) (fun c_152 => ?_)
      · skip
        refine lv_iload_n hx hb d_M_init_159 rfl (lv_at hl 3 rfl) ?_
        refine lv_sipush (v := 1000) hx hb d_M_init_160 (by decide) ?_
        refine lv_icmp_le (tgt := 172) hx hb d_M_init_163 (by decide) (fun c_163 => ?_) (fun c_163 => ?_)
        · skip
          refine lv_iload_n hx hb d_M_init_172 rfl (lv_at hl 3 rfl) ?_
          exact jn_173 _ (by unfold j_cz; rw [if_pos c_152, if_pos c_163])
        · skip
          refine lv_sipush (v := 1000) hx hb d_M_init_166 (by decide) ?_
          refine lv_goto (tgt := 173) hx hb d_M_init_169 (by decide) ?_
          exact jn_173 _ (by unfold j_cz; rw [if_pos c_152, if_neg c_163])
      · skip
        refine lv_iconst (v := 1) hx hb d_M_init_155 (by decide) ?_
        refine lv_goto (tgt := 173) hx hb d_M_init_156 (by decide) ?_
        exact jn_173 _ (by unfold j_cz; rw [if_neg c_152])
    refine lv_iload_n hx hb d_M_init_121 rfl (lv_at hl 2 rfl) ?_
    refine lv_iconst (v := 1) hx hb d_M_init_122 (by decide) ?_
    refine lv_icmp_ge (tgt := 130) hx hb d_M_init_123 (by decide) (fun c_123 => ?_) (fun c_123 => ?_)
    · skip
      refine lv_iload_n hx hb d_M_init_130 rfl (lv_at hl 2 rfl) ?_
      refine lv_sipush (v := 1000) hx hb d_M_init_131 (by decide) ?_
      refine lv_icmp_le (tgt := 143) hx hb d_M_init_134 (by decide) (fun c_134 => ?_) (fun c_134 => ?_)
      · skip
        refine lv_iload_n hx hb d_M_init_143 rfl (lv_at hl 2 rfl) ?_
        exact jn_144 _ (by unfold j_cz; rw [if_pos c_123, if_pos c_134])
      · skip
        refine lv_sipush (v := 1000) hx hb d_M_init_137 (by decide) ?_
        refine lv_goto (tgt := 144) hx hb d_M_init_140 (by decide) ?_
        exact jn_144 _ (by unfold j_cz; rw [if_pos c_123, if_neg c_134])
    · skip
      refine lv_iconst (v := 1) hx hb d_M_init_126 (by decide) ?_
      refine lv_goto (tgt := 144) hx hb d_M_init_127 (by decide) ?_
      exact jn_144 _ (by unfold j_cz; rw [if_neg c_123])
  refine lv_iload_n hx hb d_M_init_92 rfl (lv_at hl 1 rfl) ?_
  refine lv_iconst (v := 1) hx hb d_M_init_93 (by decide) ?_
  refine lv_icmp_ge (tgt := 101) hx hb d_M_init_94 (by decide) (fun c_94 => ?_) (fun c_94 => ?_)
  · skip
    refine lv_iload_n hx hb d_M_init_101 rfl (lv_at hl 1 rfl) ?_
    refine lv_sipush (v := 1000) hx hb d_M_init_102 (by decide) ?_
    refine lv_icmp_le (tgt := 114) hx hb d_M_init_105 (by decide) (fun c_105 => ?_) (fun c_105 => ?_)
    · skip
      refine lv_iload_n hx hb d_M_init_114 rfl (lv_at hl 1 rfl) ?_
      exact jn_115 _ (by unfold j_cz; rw [if_pos c_94, if_pos c_105])
    · skip
      refine lv_sipush (v := 1000) hx hb d_M_init_108 (by decide) ?_
      refine lv_goto (tgt := 115) hx hb d_M_init_111 (by decide) ?_
      exact jn_115 _ (by unfold j_cz; rw [if_pos c_94, if_neg c_105])
  · skip
    refine lv_iconst (v := 1) hx hb d_M_init_97 (by decide) ?_
    refine lv_goto (tgt := 115) hx hb d_M_init_98 (by decide) ?_
    exact jn_115 _ (by unfold j_cz; rw [if_neg c_94])

set_option maxHeartbeats 4000000 in
set_option maxRecDepth 100000 in
theorem c_M_source (l : Launch) (dC : Nat → ClassId) (dI : Nat → Nat → Nat) (cI cL : ClassId) (aM : Nat) (th0 : Int32) (kn : Int32) (mS : Nat) (mC : Nat) (mL : Nat) (mK : Nat) (mQ : Nat) (mT : Nat) (mD : Nat) (mA : Nat) (mB : Nat) (mG : Nat) (zs : Nat → Int32) (sc : Nat → Int32) (x : Int32) (y : Int32) (z : Int32) (sz : Nat) (h : wpt (zs 0) (zs 1) (zs 2) x y z) : Met l y_M_source w_M_source ({ frames := 2, cells := 0, slots := 0, locals := 48 }) (wr_P (dC, dI) cI cL [(aM, .inr (3, [.int th0, .ref mS, .ref mC, .ref mL, .ref mK, .int kn, .ref mQ, .ref mT, .ref mD, .ref mA, .ref mB, .ref mG])), (mS, .inl (cI, 3, .inl zs)), (mC, .inl (cI, 3, .inl sc))] sz [.ref aM, .int x, .int y, .int z]) (wr_v (dC, dI) (va_A [(aM, .inr (3, [.int th0, .ref mS, .ref mC, .ref mL, .ref mK, .int kn, .ref mQ, .ref mT, .ref mD, .ref mA, .ref mB, .ref mG])), (mS, .inl (cI, 3, .inl zs)), (mC, .inl (cI, 3, .inl sc))] sz) [(aM, .inr (3, [.int 0, .ref mS, .ref mC, .ref mL, .ref mK, .int 0, .ref mQ, .ref mT, .ref mD, .ref mA, .ref mB, .ref mG])), (mS, .inl (cI, 3, .inl zs)), (mC, .inl (cI, 3, .inl (upd (upd (upd sc 0 x) 1 y) 2 z)))]) 0 0 (va_A [(aM, .inr (3, [.int th0, .ref mS, .ref mC, .ref mL, .ref mK, .int kn, .ref mQ, .ref mT, .ref mD, .ref mA, .ref mB, .ref mG])), (mS, .inl (cI, 3, .inl zs)), (mC, .inl (cI, 3, .inl sc))] sz) := by
  refine Met.ofW (cc := b_M_source) (maxL := 4) (ret := none) (by decide) rfl ?_
  intro p e s m args below meth c s₁ B hml hv
  obtain ⟨rfl, hsz, hP, hM, hD0⟩ := hv
  have hx := B.exec
  have hb := B.bytes
  have hr := B.returns
  have hts := atoms_spec (ws := w_M_source) B.pre
  have hown : s.vm.findClass "RoomEchoesModel" = some m.cls := findClass_of_methodNamed B.named
  have hlocks := B.notSynchronized
  have hK := hM.1
  subst hsz
  have hD := hD0.self (sz := s.heap.size)
  generalize hAe : va_A [(aM, .inr (3, [.int th0, .ref mS, .ref mC, .ref mL, .ref mK, .int kn, .ref mQ, .ref mT, .ref mD, .ref mA, .ref mB, .ref mG])), (mS, .inl (cI, 3, .inl zs)), (mC, .inl (cI, 3, .inl sc))] s.heap.size = A at hD ⊢
  have hA : ∀ q : Nat, s.heap.size ≤ q → A q := fun q h => by rw [← hAe]; exact Or.inr h
  have hS : va_S A s.heap s.heap [] := va_S.rf
  have hP : va_P (dC, dI) vwCl [(aM, .inr (3, [.int th0, .ref mS, .ref mC, .ref mL, .ref mK, .int kn, .ref mQ, .ref mT, .ref mD, .ref mA, .ref mB, .ref mG])), (mS, .inl (cI, 3, .inl zs)), (mC, .inl (cI, 3, .inl sc))] s.heap := hP
  have hl := lv_entry ([.ref aM, .int x, .int y, .int z]) (n := 4) (Nat.le_of_ble_eq_true rfl)
  rw [lg_entry_eq]
  generalize (lg_sl ([.ref aM, .int x, .int y, .int z]) ++ List.replicate (4 - (lg_sl ([.ref aM, .int x, .int y, .int z])).length) Slot.unset).toArray = ls at hl ⊢
  have hl : lv_has ls 4 [(0, .ref aM), (1, .int x), (2, .int y), (3, .int z)] := hl
  refine lv_aload_n hx hb d_M_source_0 rfl (lv_at hl 0 rfl) ?_
  refine lv_aload_n hx hb d_M_source_1 rfl (lv_at hl 0 rfl) ?_
  refine lv_iload_n hx hb d_M_source_2 rfl (lv_at hl 1 rfl) ?_
  refine lv_iload_n hx hb d_M_source_3 rfl (lv_at hl 2 rfl) ?_
  refine lv_iload_n hx hb d_M_source_4 rfl (lv_at hl 3 rfl) ?_
  have hPc := hP.sub (ws' := [(aM, .inr (3, [.int th0, .ref mS, .ref mC, .ref mL, .ref mK, .int kn, .ref mQ, .ref mT, .ref mD, .ref mA, .ref mB, .ref mG])), (mS, .inl (cI, 3, .inl zs))]) [0, 1] rfl
  refine rd_c (va_runV (As := [.int x, .int y, .int z]) (rest := [.ref aM]) ⟨hx, hb, hml, hown, hts⟩ (c_M_isPoint l dC dI cI cL aM th0 kn mS mC mL mK mQ mT mD mA mB mG zs x y z) (cwV 3 hts (gi_V mw472 mw469 mw471 mw14 mw33) rfl rfl rfl (by decide +kernel) ⟨Nat.le_of_ble_eq_true rfl, Nat.le_of_ble_eq_true rfl⟩) (rd_V hM hPc rfl rfl rfl) rfl rfl hl.1 rfl (lv_room (Nat.le_of_ble_eq_true rfl)) d_M_source_5 ⟨Nat.le_of_ble_eq_true rfl, Nat.le_of_ble_eq_true rfl⟩) ?_
  refine tp_i 1 (pt_yes h) ?_
  refine lv_if_eq (tgt := 15) hx hb d_M_source_8 (by decide) (fun c_8 => ?_) (fun c_8 => ?_)
  · skip
    exact absurd c_8 (by decide)
  · skip
    refine lv_iconst (v := 0) hx hb d_M_source_11 (by decide) ?_
    refine lv_goto (tgt := 16) hx hb d_M_source_12 (by decide) ?_
    refine va_put (D := (dC, dI)) (ci := 3) (v := .int 0) (ty := .int) (C := "RoomEchoesModel") (T := FT_M) (N := 12) hx hb hts (hi_ in_M) ty_M tyo_M nm_M hown hK hP hD hS 0 rfl rfl 0 (by decide) (ht_ hts mw424) (fun _ h9 => h9) rfl (by decide +kernel) rfl rfl (Nat.le_of_ble_eq_true rfl) d_M_source_16 (fun H locs hP hD hS => ?_)
    have hP : va_P (dC, dI) vwCl [(aM, .inr (3, [.int 0, .ref mS, .ref mC, .ref mL, .ref mK, .int kn, .ref mQ, .ref mT, .ref mD, .ref mA, .ref mB, .ref mG])), (mS, .inl (cI, 3, .inl zs)), (mC, .inl (cI, 3, .inl sc))] H := hP
    have hD : va_D A [(aM, .inr (3, [.int 0, .ref mS, .ref mC, .ref mL, .ref mK, .int kn, .ref mQ, .ref mT, .ref mD, .ref mA, .ref mB, .ref mG])), (mS, .inl (cI, 3, .inl zs)), (mC, .inl (cI, 3, .inl sc))] := hD
    refine lv_aload_n hx hb d_M_source_19 rfl (lv_at hl 0 rfl) ?_
    refine va_get (D := (dC, dI)) (ci := 3) (v := .int 0) (C := "RoomEchoesModel") (T := FT_M) (N := 12) hx hb hts (hi_ in_M) hown hK hP 0 rfl rfl 0 (by decide) (ht_ hts mw424) (fun _ h9 => h9) rfl d_M_source_20 ?_
    refine lv_if_ne (tgt := 52) hx hb d_M_source_23 (by decide) (fun c_23 => ?_) (fun c_23 => ?_)
    · skip
      exact absurd (by decide) c_23
    · skip
      refine lv_aload_n hx hb d_M_source_26 rfl (lv_at hl 0 rfl) ?_
      refine va_get (D := (dC, dI)) (ci := 3) (v := .ref mC) (C := "RoomEchoesModel") (T := FT_M) (N := 12) hx hb hts (hi_ in_M) hown hK hP 0 rfl rfl 2 (by decide) (ht_ hts mw426) (fun _ h9 => h9) rfl d_M_source_27 ?_
      refine lv_iconst (v := 0) hx hb d_M_source_30 (by decide) ?_
      refine lv_iload_n hx hb d_M_source_31 rfl (lv_at hl 1 rfl) ?_
      refine va_iast hx hb hK hP hD hS 2 0 rfl rfl (by unfold vp_in; decide) d_M_source_32 (fun H locs hP hD hS => ?_)
      have hP : va_P (dC, dI) vwCl [(aM, .inr (3, [.int 0, .ref mS, .ref mC, .ref mL, .ref mK, .int kn, .ref mQ, .ref mT, .ref mD, .ref mA, .ref mB, .ref mG])), (mS, .inl (cI, 3, .inl zs)), (mC, .inl (cI, 3, .inl (upd sc 0 x)))] H := hP
      have hD : va_D A [(aM, .inr (3, [.int 0, .ref mS, .ref mC, .ref mL, .ref mK, .int kn, .ref mQ, .ref mT, .ref mD, .ref mA, .ref mB, .ref mG])), (mS, .inl (cI, 3, .inl zs)), (mC, .inl (cI, 3, .inl (upd sc 0 x)))] := hD
      refine lv_aload_n hx hb d_M_source_33 rfl (lv_at hl 0 rfl) ?_
      refine va_get (D := (dC, dI)) (ci := 3) (v := .ref mC) (C := "RoomEchoesModel") (T := FT_M) (N := 12) hx hb hts (hi_ in_M) hown hK hP 0 rfl rfl 2 (by decide) (ht_ hts mw426) (fun _ h9 => h9) rfl d_M_source_34 ?_
      refine lv_iconst (v := 1) hx hb d_M_source_37 (by decide) ?_
      refine lv_iload_n hx hb d_M_source_38 rfl (lv_at hl 2 rfl) ?_
      refine va_iast hx hb hK hP hD hS 2 0 rfl rfl (by unfold vp_in; decide) d_M_source_39 (fun H locs hP hD hS => ?_)
      have hP : va_P (dC, dI) vwCl [(aM, .inr (3, [.int 0, .ref mS, .ref mC, .ref mL, .ref mK, .int kn, .ref mQ, .ref mT, .ref mD, .ref mA, .ref mB, .ref mG])), (mS, .inl (cI, 3, .inl zs)), (mC, .inl (cI, 3, .inl (upd (upd sc 0 x) 1 y)))] H := hP
      have hD : va_D A [(aM, .inr (3, [.int 0, .ref mS, .ref mC, .ref mL, .ref mK, .int kn, .ref mQ, .ref mT, .ref mD, .ref mA, .ref mB, .ref mG])), (mS, .inl (cI, 3, .inl zs)), (mC, .inl (cI, 3, .inl (upd (upd sc 0 x) 1 y)))] := hD
      refine lv_aload_n hx hb d_M_source_40 rfl (lv_at hl 0 rfl) ?_
      refine va_get (D := (dC, dI)) (ci := 3) (v := .ref mC) (C := "RoomEchoesModel") (T := FT_M) (N := 12) hx hb hts (hi_ in_M) hown hK hP 0 rfl rfl 2 (by decide) (ht_ hts mw426) (fun _ h9 => h9) rfl d_M_source_41 ?_
      refine lv_iconst (v := 2) hx hb d_M_source_44 (by decide) ?_
      refine lv_iload_n hx hb d_M_source_45 rfl (lv_at hl 3 rfl) ?_
      refine va_iast hx hb hK hP hD hS 2 0 rfl rfl (by unfold vp_in; decide) d_M_source_46 (fun H locs hP hD hS => ?_)
      have hP : va_P (dC, dI) vwCl [(aM, .inr (3, [.int 0, .ref mS, .ref mC, .ref mL, .ref mK, .int kn, .ref mQ, .ref mT, .ref mD, .ref mA, .ref mB, .ref mG])), (mS, .inl (cI, 3, .inl zs)), (mC, .inl (cI, 3, .inl (upd (upd (upd sc 0 x) 1 y) 2 z)))] H := hP
      have hD : va_D A [(aM, .inr (3, [.int 0, .ref mS, .ref mC, .ref mL, .ref mK, .int kn, .ref mQ, .ref mT, .ref mD, .ref mA, .ref mB, .ref mG])), (mS, .inl (cI, 3, .inl zs)), (mC, .inl (cI, 3, .inl (upd (upd (upd sc 0 x) 1 y) 2 z)))] := hD
      refine lv_aload_n hx hb d_M_source_47 rfl (lv_at hl 0 rfl) ?_
      refine lv_iconst (v := 0) hx hb d_M_source_48 (by decide) ?_
      refine va_put (D := (dC, dI)) (ci := 3) (v := .int 0) (ty := .boolean) (C := "RoomEchoesModel") (T := FT_M) (N := 12) hx hb hts (hi_ in_M) ty_M tyo_M nm_M hown hK hP hD hS 0 rfl rfl 5 (by decide) (ht_ hts mw429) (fun _ h9 => h9) rfl (by decide +kernel) rfl rfl (Nat.le_of_ble_eq_true rfl) d_M_source_49 (fun H locs hP hD hS => ?_)
      have hP : va_P (dC, dI) vwCl [(aM, .inr (3, [.int 0, .ref mS, .ref mC, .ref mL, .ref mK, .int 0, .ref mQ, .ref mT, .ref mD, .ref mA, .ref mB, .ref mG])), (mS, .inl (cI, 3, .inl zs)), (mC, .inl (cI, 3, .inl (upd (upd (upd sc 0 x) 1 y) 2 z)))] H := hP
      have hD : va_D A [(aM, .inr (3, [.int 0, .ref mS, .ref mC, .ref mL, .ref mK, .int 0, .ref mQ, .ref mT, .ref mD, .ref mA, .ref mB, .ref mG])), (mS, .inl (cI, 3, .inl zs)), (mC, .inl (cI, 3, .inl (upd (upd (upd sc 0 x) 1 y) 2 z)))] := hD
      have hP9 : va_P (dC, dI) vwCl [(aM, .inr (3, [.int 0, .ref mS, .ref mC, .ref mL, .ref mK, .int 0, .ref mQ, .ref mT, .ref mD, .ref mA, .ref mB, .ref mG])), (mS, .inl (cI, 3, .inl zs)), (mC, .inl (cI, 3, .inl (upd (upd (upd sc 0 x) 1 y) 2 z)))] H := hP
      have hD9 : va_D A [(aM, .inr (3, [.int 0, .ref mS, .ref mC, .ref mL, .ref mK, .int 0, .ref mQ, .ref mT, .ref mD, .ref mA, .ref mB, .ref mG])), (mS, .inl (cI, 3, .inl zs)), (mC, .inl (cI, 3, .inl (upd (upd (upd sc 0 x) 1 y) 2 z)))] := hD
      exact W.vret hx hb hr (fun t ht hW => ⟨⟨(), rfl, trivial, by rw [ht]; exact hP9, hD9⟩, hS.F ht⟩) hS.2.2 d_M_source_52

set_option maxHeartbeats 4000000 in
set_option maxRecDepth 100000 in
theorem c_M_listener (l : Launch) (dC : Nat → ClassId) (dI : Nat → Nat → Nat) (cI cL : ClassId) (aM : Nat) (th0 : Int32) (kn : Int32) (mS : Nat) (mC : Nat) (mL : Nat) (mK : Nat) (mQ : Nat) (mT : Nat) (mD : Nat) (mA : Nat) (mB : Nat) (mG : Nat) (zs : Nat → Int32) (li : Nat → Int32) (x : Int32) (y : Int32) (z : Int32) (sz : Nat) (h : wpt (zs 0) (zs 1) (zs 2) x y z) : Met l y_M_listener w_M_listener ({ frames := 2, cells := 0, slots := 0, locals := 48 }) (wr_P (dC, dI) cI cL [(aM, .inr (3, [.int th0, .ref mS, .ref mC, .ref mL, .ref mK, .int kn, .ref mQ, .ref mT, .ref mD, .ref mA, .ref mB, .ref mG])), (mS, .inl (cI, 3, .inl zs)), (mL, .inl (cI, 3, .inl li))] sz [.ref aM, .int x, .int y, .int z]) (wr_v (dC, dI) (va_A [(aM, .inr (3, [.int th0, .ref mS, .ref mC, .ref mL, .ref mK, .int kn, .ref mQ, .ref mT, .ref mD, .ref mA, .ref mB, .ref mG])), (mS, .inl (cI, 3, .inl zs)), (mL, .inl (cI, 3, .inl li))] sz) [(aM, .inr (3, [.int 0, .ref mS, .ref mC, .ref mL, .ref mK, .int 0, .ref mQ, .ref mT, .ref mD, .ref mA, .ref mB, .ref mG])), (mS, .inl (cI, 3, .inl zs)), (mL, .inl (cI, 3, .inl (upd (upd (upd li 0 x) 1 y) 2 z)))]) 0 0 (va_A [(aM, .inr (3, [.int th0, .ref mS, .ref mC, .ref mL, .ref mK, .int kn, .ref mQ, .ref mT, .ref mD, .ref mA, .ref mB, .ref mG])), (mS, .inl (cI, 3, .inl zs)), (mL, .inl (cI, 3, .inl li))] sz) := by
  refine Met.ofW (cc := b_M_listener) (maxL := 4) (ret := none) (by decide) rfl ?_
  intro p e s m args below meth c s₁ B hml hv
  obtain ⟨rfl, hsz, hP, hM, hD0⟩ := hv
  have hx := B.exec
  have hb := B.bytes
  have hr := B.returns
  have hts := atoms_spec (ws := w_M_listener) B.pre
  have hown : s.vm.findClass "RoomEchoesModel" = some m.cls := findClass_of_methodNamed B.named
  have hlocks := B.notSynchronized
  have hK := hM.1
  subst hsz
  have hD := hD0.self (sz := s.heap.size)
  generalize hAe : va_A [(aM, .inr (3, [.int th0, .ref mS, .ref mC, .ref mL, .ref mK, .int kn, .ref mQ, .ref mT, .ref mD, .ref mA, .ref mB, .ref mG])), (mS, .inl (cI, 3, .inl zs)), (mL, .inl (cI, 3, .inl li))] s.heap.size = A at hD ⊢
  have hA : ∀ q : Nat, s.heap.size ≤ q → A q := fun q h => by rw [← hAe]; exact Or.inr h
  have hS : va_S A s.heap s.heap [] := va_S.rf
  have hP : va_P (dC, dI) vwCl [(aM, .inr (3, [.int th0, .ref mS, .ref mC, .ref mL, .ref mK, .int kn, .ref mQ, .ref mT, .ref mD, .ref mA, .ref mB, .ref mG])), (mS, .inl (cI, 3, .inl zs)), (mL, .inl (cI, 3, .inl li))] s.heap := hP
  have hl := lv_entry ([.ref aM, .int x, .int y, .int z]) (n := 4) (Nat.le_of_ble_eq_true rfl)
  rw [lg_entry_eq]
  generalize (lg_sl ([.ref aM, .int x, .int y, .int z]) ++ List.replicate (4 - (lg_sl ([.ref aM, .int x, .int y, .int z])).length) Slot.unset).toArray = ls at hl ⊢
  have hl : lv_has ls 4 [(0, .ref aM), (1, .int x), (2, .int y), (3, .int z)] := hl
  refine lv_aload_n hx hb d_M_listener_0 rfl (lv_at hl 0 rfl) ?_
  refine lv_aload_n hx hb d_M_listener_1 rfl (lv_at hl 0 rfl) ?_
  refine lv_iload_n hx hb d_M_listener_2 rfl (lv_at hl 1 rfl) ?_
  refine lv_iload_n hx hb d_M_listener_3 rfl (lv_at hl 2 rfl) ?_
  refine lv_iload_n hx hb d_M_listener_4 rfl (lv_at hl 3 rfl) ?_
  have hPc := hP.sub (ws' := [(aM, .inr (3, [.int th0, .ref mS, .ref mC, .ref mL, .ref mK, .int kn, .ref mQ, .ref mT, .ref mD, .ref mA, .ref mB, .ref mG])), (mS, .inl (cI, 3, .inl zs))]) [0, 1] rfl
  refine rd_c (va_runV (As := [.int x, .int y, .int z]) (rest := [.ref aM]) ⟨hx, hb, hml, hown, hts⟩ (c_M_isPoint l dC dI cI cL aM th0 kn mS mC mL mK mQ mT mD mA mB mG zs x y z) (cwV 3 hts (gi_V mw472 mw469 mw471 mw14 mw33) rfl rfl rfl (by decide +kernel) ⟨Nat.le_of_ble_eq_true rfl, Nat.le_of_ble_eq_true rfl⟩) (rd_V hM hPc rfl rfl rfl) rfl rfl hl.1 rfl (lv_room (Nat.le_of_ble_eq_true rfl)) d_M_listener_5 ⟨Nat.le_of_ble_eq_true rfl, Nat.le_of_ble_eq_true rfl⟩) ?_
  refine tp_i 1 (pt_yes h) ?_
  refine lv_if_eq (tgt := 15) hx hb d_M_listener_8 (by decide) (fun c_8 => ?_) (fun c_8 => ?_)
  · skip
    exact absurd c_8 (by decide)
  · skip
    refine lv_iconst (v := 0) hx hb d_M_listener_11 (by decide) ?_
    refine lv_goto (tgt := 16) hx hb d_M_listener_12 (by decide) ?_
    refine va_put (D := (dC, dI)) (ci := 3) (v := .int 0) (ty := .int) (C := "RoomEchoesModel") (T := FT_M) (N := 12) hx hb hts (hi_ in_M) ty_M tyo_M nm_M hown hK hP hD hS 0 rfl rfl 0 (by decide) (ht_ hts mw424) (fun _ h9 => h9) rfl (by decide +kernel) rfl rfl (Nat.le_of_ble_eq_true rfl) d_M_listener_16 (fun H locs hP hD hS => ?_)
    have hP : va_P (dC, dI) vwCl [(aM, .inr (3, [.int 0, .ref mS, .ref mC, .ref mL, .ref mK, .int kn, .ref mQ, .ref mT, .ref mD, .ref mA, .ref mB, .ref mG])), (mS, .inl (cI, 3, .inl zs)), (mL, .inl (cI, 3, .inl li))] H := hP
    have hD : va_D A [(aM, .inr (3, [.int 0, .ref mS, .ref mC, .ref mL, .ref mK, .int kn, .ref mQ, .ref mT, .ref mD, .ref mA, .ref mB, .ref mG])), (mS, .inl (cI, 3, .inl zs)), (mL, .inl (cI, 3, .inl li))] := hD
    refine lv_aload_n hx hb d_M_listener_19 rfl (lv_at hl 0 rfl) ?_
    refine va_get (D := (dC, dI)) (ci := 3) (v := .int 0) (C := "RoomEchoesModel") (T := FT_M) (N := 12) hx hb hts (hi_ in_M) hown hK hP 0 rfl rfl 0 (by decide) (ht_ hts mw424) (fun _ h9 => h9) rfl d_M_listener_20 ?_
    refine lv_if_ne (tgt := 52) hx hb d_M_listener_23 (by decide) (fun c_23 => ?_) (fun c_23 => ?_)
    · skip
      exact absurd (by decide) c_23
    · skip
      refine lv_aload_n hx hb d_M_listener_26 rfl (lv_at hl 0 rfl) ?_
      refine va_get (D := (dC, dI)) (ci := 3) (v := .ref mL) (C := "RoomEchoesModel") (T := FT_M) (N := 12) hx hb hts (hi_ in_M) hown hK hP 0 rfl rfl 3 (by decide) (ht_ hts mw427) (fun _ h9 => h9) rfl d_M_listener_27 ?_
      refine lv_iconst (v := 0) hx hb d_M_listener_30 (by decide) ?_
      refine lv_iload_n hx hb d_M_listener_31 rfl (lv_at hl 1 rfl) ?_
      refine va_iast hx hb hK hP hD hS 2 0 rfl rfl (by unfold vp_in; decide) d_M_listener_32 (fun H locs hP hD hS => ?_)
      have hP : va_P (dC, dI) vwCl [(aM, .inr (3, [.int 0, .ref mS, .ref mC, .ref mL, .ref mK, .int kn, .ref mQ, .ref mT, .ref mD, .ref mA, .ref mB, .ref mG])), (mS, .inl (cI, 3, .inl zs)), (mL, .inl (cI, 3, .inl (upd li 0 x)))] H := hP
      have hD : va_D A [(aM, .inr (3, [.int 0, .ref mS, .ref mC, .ref mL, .ref mK, .int kn, .ref mQ, .ref mT, .ref mD, .ref mA, .ref mB, .ref mG])), (mS, .inl (cI, 3, .inl zs)), (mL, .inl (cI, 3, .inl (upd li 0 x)))] := hD
      refine lv_aload_n hx hb d_M_listener_33 rfl (lv_at hl 0 rfl) ?_
      refine va_get (D := (dC, dI)) (ci := 3) (v := .ref mL) (C := "RoomEchoesModel") (T := FT_M) (N := 12) hx hb hts (hi_ in_M) hown hK hP 0 rfl rfl 3 (by decide) (ht_ hts mw427) (fun _ h9 => h9) rfl d_M_listener_34 ?_
      refine lv_iconst (v := 1) hx hb d_M_listener_37 (by decide) ?_
      refine lv_iload_n hx hb d_M_listener_38 rfl (lv_at hl 2 rfl) ?_
      refine va_iast hx hb hK hP hD hS 2 0 rfl rfl (by unfold vp_in; decide) d_M_listener_39 (fun H locs hP hD hS => ?_)
      have hP : va_P (dC, dI) vwCl [(aM, .inr (3, [.int 0, .ref mS, .ref mC, .ref mL, .ref mK, .int kn, .ref mQ, .ref mT, .ref mD, .ref mA, .ref mB, .ref mG])), (mS, .inl (cI, 3, .inl zs)), (mL, .inl (cI, 3, .inl (upd (upd li 0 x) 1 y)))] H := hP
      have hD : va_D A [(aM, .inr (3, [.int 0, .ref mS, .ref mC, .ref mL, .ref mK, .int kn, .ref mQ, .ref mT, .ref mD, .ref mA, .ref mB, .ref mG])), (mS, .inl (cI, 3, .inl zs)), (mL, .inl (cI, 3, .inl (upd (upd li 0 x) 1 y)))] := hD
      refine lv_aload_n hx hb d_M_listener_40 rfl (lv_at hl 0 rfl) ?_
      refine va_get (D := (dC, dI)) (ci := 3) (v := .ref mL) (C := "RoomEchoesModel") (T := FT_M) (N := 12) hx hb hts (hi_ in_M) hown hK hP 0 rfl rfl 3 (by decide) (ht_ hts mw427) (fun _ h9 => h9) rfl d_M_listener_41 ?_
      refine lv_iconst (v := 2) hx hb d_M_listener_44 (by decide) ?_
      refine lv_iload_n hx hb d_M_listener_45 rfl (lv_at hl 3 rfl) ?_
      refine va_iast hx hb hK hP hD hS 2 0 rfl rfl (by unfold vp_in; decide) d_M_listener_46 (fun H locs hP hD hS => ?_)
      have hP : va_P (dC, dI) vwCl [(aM, .inr (3, [.int 0, .ref mS, .ref mC, .ref mL, .ref mK, .int kn, .ref mQ, .ref mT, .ref mD, .ref mA, .ref mB, .ref mG])), (mS, .inl (cI, 3, .inl zs)), (mL, .inl (cI, 3, .inl (upd (upd (upd li 0 x) 1 y) 2 z)))] H := hP
      have hD : va_D A [(aM, .inr (3, [.int 0, .ref mS, .ref mC, .ref mL, .ref mK, .int kn, .ref mQ, .ref mT, .ref mD, .ref mA, .ref mB, .ref mG])), (mS, .inl (cI, 3, .inl zs)), (mL, .inl (cI, 3, .inl (upd (upd (upd li 0 x) 1 y) 2 z)))] := hD
      refine lv_aload_n hx hb d_M_listener_47 rfl (lv_at hl 0 rfl) ?_
      refine lv_iconst (v := 0) hx hb d_M_listener_48 (by decide) ?_
      refine va_put (D := (dC, dI)) (ci := 3) (v := .int 0) (ty := .boolean) (C := "RoomEchoesModel") (T := FT_M) (N := 12) hx hb hts (hi_ in_M) ty_M tyo_M nm_M hown hK hP hD hS 0 rfl rfl 5 (by decide) (ht_ hts mw429) (fun _ h9 => h9) rfl (by decide +kernel) rfl rfl (Nat.le_of_ble_eq_true rfl) d_M_listener_49 (fun H locs hP hD hS => ?_)
      have hP : va_P (dC, dI) vwCl [(aM, .inr (3, [.int 0, .ref mS, .ref mC, .ref mL, .ref mK, .int 0, .ref mQ, .ref mT, .ref mD, .ref mA, .ref mB, .ref mG])), (mS, .inl (cI, 3, .inl zs)), (mL, .inl (cI, 3, .inl (upd (upd (upd li 0 x) 1 y) 2 z)))] H := hP
      have hD : va_D A [(aM, .inr (3, [.int 0, .ref mS, .ref mC, .ref mL, .ref mK, .int 0, .ref mQ, .ref mT, .ref mD, .ref mA, .ref mB, .ref mG])), (mS, .inl (cI, 3, .inl zs)), (mL, .inl (cI, 3, .inl (upd (upd (upd li 0 x) 1 y) 2 z)))] := hD
      have hP9 : va_P (dC, dI) vwCl [(aM, .inr (3, [.int 0, .ref mS, .ref mC, .ref mL, .ref mK, .int 0, .ref mQ, .ref mT, .ref mD, .ref mA, .ref mB, .ref mG])), (mS, .inl (cI, 3, .inl zs)), (mL, .inl (cI, 3, .inl (upd (upd (upd li 0 x) 1 y) 2 z)))] H := hP
      have hD9 : va_D A [(aM, .inr (3, [.int 0, .ref mS, .ref mC, .ref mL, .ref mK, .int 0, .ref mQ, .ref mT, .ref mD, .ref mA, .ref mB, .ref mG])), (mS, .inl (cI, 3, .inl zs)), (mL, .inl (cI, 3, .inl (upd (upd (upd li 0 x) 1 y) 2 z)))] := hD
      exact W.vret hx hb hr (fun t ht hW => ⟨⟨(), rfl, trivial, by rw [ht]; exact hP9, hD9⟩, hS.F ht⟩) hS.2.2 d_M_listener_52

set_option maxHeartbeats 4000000 in
set_option maxRecDepth 100000 in
theorem n_M_source (l : Launch) (dC : Nat → ClassId) (dI : Nat → Nat → Nat) (cI cL : ClassId) (aM : Nat) (th0 : Int32) (kn : Int32) (mS : Nat) (mC : Nat) (mL : Nat) (mK : Nat) (mQ : Nat) (mT : Nat) (mD : Nat) (mA : Nat) (mB : Nat) (mG : Nat) (zs : Nat → Int32) (x : Int32) (y : Int32) (z : Int32) (sz : Nat) (h : ¬ (wpt (zs 0) (zs 1) (zs 2) x y z)) : Met l y_M_source w_M_source ({ frames := 2, cells := 0, slots := 0, locals := 48 }) (wr_P (dC, dI) cI cL [(aM, .inr (3, [.int th0, .ref mS, .ref mC, .ref mL, .ref mK, .int kn, .ref mQ, .ref mT, .ref mD, .ref mA, .ref mB, .ref mG])), (mS, .inl (cI, 3, .inl zs))] sz [.ref aM, .int x, .int y, .int z]) (wr_v (dC, dI) (va_A [(aM, .inr (3, [.int th0, .ref mS, .ref mC, .ref mL, .ref mK, .int kn, .ref mQ, .ref mT, .ref mD, .ref mA, .ref mB, .ref mG])), (mS, .inl (cI, 3, .inl zs))] sz) [(aM, .inr (3, [.int 1, .ref mS, .ref mC, .ref mL, .ref mK, .int kn, .ref mQ, .ref mT, .ref mD, .ref mA, .ref mB, .ref mG])), (mS, .inl (cI, 3, .inl zs))]) 0 0 (va_A [(aM, .inr (3, [.int th0, .ref mS, .ref mC, .ref mL, .ref mK, .int kn, .ref mQ, .ref mT, .ref mD, .ref mA, .ref mB, .ref mG])), (mS, .inl (cI, 3, .inl zs))] sz) := by
  refine Met.ofW (cc := b_M_source) (maxL := 4) (ret := none) (by decide) rfl ?_
  intro p e s m args below meth c s₁ B hml hv
  obtain ⟨rfl, hsz, hP, hM, hD0⟩ := hv
  have hx := B.exec
  have hb := B.bytes
  have hr := B.returns
  have hts := atoms_spec (ws := w_M_source) B.pre
  have hown : s.vm.findClass "RoomEchoesModel" = some m.cls := findClass_of_methodNamed B.named
  have hlocks := B.notSynchronized
  have hK := hM.1
  subst hsz
  have hD := hD0.self (sz := s.heap.size)
  generalize hAe : va_A [(aM, .inr (3, [.int th0, .ref mS, .ref mC, .ref mL, .ref mK, .int kn, .ref mQ, .ref mT, .ref mD, .ref mA, .ref mB, .ref mG])), (mS, .inl (cI, 3, .inl zs))] s.heap.size = A at hD ⊢
  have hA : ∀ q : Nat, s.heap.size ≤ q → A q := fun q h => by rw [← hAe]; exact Or.inr h
  have hS : va_S A s.heap s.heap [] := va_S.rf
  have hP : va_P (dC, dI) vwCl [(aM, .inr (3, [.int th0, .ref mS, .ref mC, .ref mL, .ref mK, .int kn, .ref mQ, .ref mT, .ref mD, .ref mA, .ref mB, .ref mG])), (mS, .inl (cI, 3, .inl zs))] s.heap := hP
  have hl := lv_entry ([.ref aM, .int x, .int y, .int z]) (n := 4) (Nat.le_of_ble_eq_true rfl)
  rw [lg_entry_eq]
  generalize (lg_sl ([.ref aM, .int x, .int y, .int z]) ++ List.replicate (4 - (lg_sl ([.ref aM, .int x, .int y, .int z])).length) Slot.unset).toArray = ls at hl ⊢
  have hl : lv_has ls 4 [(0, .ref aM), (1, .int x), (2, .int y), (3, .int z)] := hl
  refine lv_aload_n hx hb d_M_source_0 rfl (lv_at hl 0 rfl) ?_
  refine lv_aload_n hx hb d_M_source_1 rfl (lv_at hl 0 rfl) ?_
  refine lv_iload_n hx hb d_M_source_2 rfl (lv_at hl 1 rfl) ?_
  refine lv_iload_n hx hb d_M_source_3 rfl (lv_at hl 2 rfl) ?_
  refine lv_iload_n hx hb d_M_source_4 rfl (lv_at hl 3 rfl) ?_
  have hPc := hP.sub (ws' := [(aM, .inr (3, [.int th0, .ref mS, .ref mC, .ref mL, .ref mK, .int kn, .ref mQ, .ref mT, .ref mD, .ref mA, .ref mB, .ref mG])), (mS, .inl (cI, 3, .inl zs))]) [0, 1] rfl
  refine rd_c (va_runV (As := [.int x, .int y, .int z]) (rest := [.ref aM]) ⟨hx, hb, hml, hown, hts⟩ (c_M_isPoint l dC dI cI cL aM th0 kn mS mC mL mK mQ mT mD mA mB mG zs x y z) (cwV 3 hts (gi_V mw472 mw469 mw471 mw14 mw33) rfl rfl rfl (by decide +kernel) ⟨Nat.le_of_ble_eq_true rfl, Nat.le_of_ble_eq_true rfl⟩) (rd_V hM hPc rfl rfl rfl) rfl rfl hl.1 rfl (lv_room (Nat.le_of_ble_eq_true rfl)) d_M_source_5 ⟨Nat.le_of_ble_eq_true rfl, Nat.le_of_ble_eq_true rfl⟩) ?_
  refine tp_i 0 (pt_no h) ?_
  refine lv_if_eq (tgt := 15) hx hb d_M_source_8 (by decide) (fun c_8 => ?_) (fun c_8 => ?_)
  · skip
    refine lv_iconst (v := 1) hx hb d_M_source_15 (by decide) ?_
    refine va_put (D := (dC, dI)) (ci := 3) (v := .int 1) (ty := .int) (C := "RoomEchoesModel") (T := FT_M) (N := 12) hx hb hts (hi_ in_M) ty_M tyo_M nm_M hown hK hP hD hS 0 rfl rfl 0 (by decide) (ht_ hts mw424) (fun _ h9 => h9) rfl (by decide +kernel) rfl rfl (Nat.le_of_ble_eq_true rfl) d_M_source_16 (fun H locs hP hD hS => ?_)
    have hP : va_P (dC, dI) vwCl [(aM, .inr (3, [.int 1, .ref mS, .ref mC, .ref mL, .ref mK, .int kn, .ref mQ, .ref mT, .ref mD, .ref mA, .ref mB, .ref mG])), (mS, .inl (cI, 3, .inl zs))] H := hP
    have hD : va_D A [(aM, .inr (3, [.int 1, .ref mS, .ref mC, .ref mL, .ref mK, .int kn, .ref mQ, .ref mT, .ref mD, .ref mA, .ref mB, .ref mG])), (mS, .inl (cI, 3, .inl zs))] := hD
    refine lv_aload_n hx hb d_M_source_19 rfl (lv_at hl 0 rfl) ?_
    refine va_get (D := (dC, dI)) (ci := 3) (v := .int 1) (C := "RoomEchoesModel") (T := FT_M) (N := 12) hx hb hts (hi_ in_M) hown hK hP 0 rfl rfl 0 (by decide) (ht_ hts mw424) (fun _ h9 => h9) rfl d_M_source_20 ?_
    refine lv_if_ne (tgt := 52) hx hb d_M_source_23 (by decide) (fun c_23 => ?_) (fun c_23 => ?_)
    · skip
      have hP9 : va_P (dC, dI) vwCl [(aM, .inr (3, [.int 1, .ref mS, .ref mC, .ref mL, .ref mK, .int kn, .ref mQ, .ref mT, .ref mD, .ref mA, .ref mB, .ref mG])), (mS, .inl (cI, 3, .inl zs))] H := hP
      have hD9 : va_D A [(aM, .inr (3, [.int 1, .ref mS, .ref mC, .ref mL, .ref mK, .int kn, .ref mQ, .ref mT, .ref mD, .ref mA, .ref mB, .ref mG])), (mS, .inl (cI, 3, .inl zs))] := hD
      exact W.vret hx hb hr (fun t ht hW => ⟨⟨(), rfl, trivial, by rw [ht]; exact hP9, hD9⟩, hS.F ht⟩) hS.2.2 d_M_source_52
    · skip
      exact absurd c_23 (by decide)
  · skip
    exact absurd (by decide) c_8

set_option maxHeartbeats 4000000 in
set_option maxRecDepth 100000 in
theorem n_M_listener (l : Launch) (dC : Nat → ClassId) (dI : Nat → Nat → Nat) (cI cL : ClassId) (aM : Nat) (th0 : Int32) (kn : Int32) (mS : Nat) (mC : Nat) (mL : Nat) (mK : Nat) (mQ : Nat) (mT : Nat) (mD : Nat) (mA : Nat) (mB : Nat) (mG : Nat) (zs : Nat → Int32) (x : Int32) (y : Int32) (z : Int32) (sz : Nat) (h : ¬ (wpt (zs 0) (zs 1) (zs 2) x y z)) : Met l y_M_listener w_M_listener ({ frames := 2, cells := 0, slots := 0, locals := 48 }) (wr_P (dC, dI) cI cL [(aM, .inr (3, [.int th0, .ref mS, .ref mC, .ref mL, .ref mK, .int kn, .ref mQ, .ref mT, .ref mD, .ref mA, .ref mB, .ref mG])), (mS, .inl (cI, 3, .inl zs))] sz [.ref aM, .int x, .int y, .int z]) (wr_v (dC, dI) (va_A [(aM, .inr (3, [.int th0, .ref mS, .ref mC, .ref mL, .ref mK, .int kn, .ref mQ, .ref mT, .ref mD, .ref mA, .ref mB, .ref mG])), (mS, .inl (cI, 3, .inl zs))] sz) [(aM, .inr (3, [.int 1, .ref mS, .ref mC, .ref mL, .ref mK, .int kn, .ref mQ, .ref mT, .ref mD, .ref mA, .ref mB, .ref mG])), (mS, .inl (cI, 3, .inl zs))]) 0 0 (va_A [(aM, .inr (3, [.int th0, .ref mS, .ref mC, .ref mL, .ref mK, .int kn, .ref mQ, .ref mT, .ref mD, .ref mA, .ref mB, .ref mG])), (mS, .inl (cI, 3, .inl zs))] sz) := by
  refine Met.ofW (cc := b_M_listener) (maxL := 4) (ret := none) (by decide) rfl ?_
  intro p e s m args below meth c s₁ B hml hv
  obtain ⟨rfl, hsz, hP, hM, hD0⟩ := hv
  have hx := B.exec
  have hb := B.bytes
  have hr := B.returns
  have hts := atoms_spec (ws := w_M_listener) B.pre
  have hown : s.vm.findClass "RoomEchoesModel" = some m.cls := findClass_of_methodNamed B.named
  have hlocks := B.notSynchronized
  have hK := hM.1
  subst hsz
  have hD := hD0.self (sz := s.heap.size)
  generalize hAe : va_A [(aM, .inr (3, [.int th0, .ref mS, .ref mC, .ref mL, .ref mK, .int kn, .ref mQ, .ref mT, .ref mD, .ref mA, .ref mB, .ref mG])), (mS, .inl (cI, 3, .inl zs))] s.heap.size = A at hD ⊢
  have hA : ∀ q : Nat, s.heap.size ≤ q → A q := fun q h => by rw [← hAe]; exact Or.inr h
  have hS : va_S A s.heap s.heap [] := va_S.rf
  have hP : va_P (dC, dI) vwCl [(aM, .inr (3, [.int th0, .ref mS, .ref mC, .ref mL, .ref mK, .int kn, .ref mQ, .ref mT, .ref mD, .ref mA, .ref mB, .ref mG])), (mS, .inl (cI, 3, .inl zs))] s.heap := hP
  have hl := lv_entry ([.ref aM, .int x, .int y, .int z]) (n := 4) (Nat.le_of_ble_eq_true rfl)
  rw [lg_entry_eq]
  generalize (lg_sl ([.ref aM, .int x, .int y, .int z]) ++ List.replicate (4 - (lg_sl ([.ref aM, .int x, .int y, .int z])).length) Slot.unset).toArray = ls at hl ⊢
  have hl : lv_has ls 4 [(0, .ref aM), (1, .int x), (2, .int y), (3, .int z)] := hl
  refine lv_aload_n hx hb d_M_listener_0 rfl (lv_at hl 0 rfl) ?_
  refine lv_aload_n hx hb d_M_listener_1 rfl (lv_at hl 0 rfl) ?_
  refine lv_iload_n hx hb d_M_listener_2 rfl (lv_at hl 1 rfl) ?_
  refine lv_iload_n hx hb d_M_listener_3 rfl (lv_at hl 2 rfl) ?_
  refine lv_iload_n hx hb d_M_listener_4 rfl (lv_at hl 3 rfl) ?_
  have hPc := hP.sub (ws' := [(aM, .inr (3, [.int th0, .ref mS, .ref mC, .ref mL, .ref mK, .int kn, .ref mQ, .ref mT, .ref mD, .ref mA, .ref mB, .ref mG])), (mS, .inl (cI, 3, .inl zs))]) [0, 1] rfl
  refine rd_c (va_runV (As := [.int x, .int y, .int z]) (rest := [.ref aM]) ⟨hx, hb, hml, hown, hts⟩ (c_M_isPoint l dC dI cI cL aM th0 kn mS mC mL mK mQ mT mD mA mB mG zs x y z) (cwV 3 hts (gi_V mw472 mw469 mw471 mw14 mw33) rfl rfl rfl (by decide +kernel) ⟨Nat.le_of_ble_eq_true rfl, Nat.le_of_ble_eq_true rfl⟩) (rd_V hM hPc rfl rfl rfl) rfl rfl hl.1 rfl (lv_room (Nat.le_of_ble_eq_true rfl)) d_M_listener_5 ⟨Nat.le_of_ble_eq_true rfl, Nat.le_of_ble_eq_true rfl⟩) ?_
  refine tp_i 0 (pt_no h) ?_
  refine lv_if_eq (tgt := 15) hx hb d_M_listener_8 (by decide) (fun c_8 => ?_) (fun c_8 => ?_)
  · skip
    refine lv_iconst (v := 1) hx hb d_M_listener_15 (by decide) ?_
    refine va_put (D := (dC, dI)) (ci := 3) (v := .int 1) (ty := .int) (C := "RoomEchoesModel") (T := FT_M) (N := 12) hx hb hts (hi_ in_M) ty_M tyo_M nm_M hown hK hP hD hS 0 rfl rfl 0 (by decide) (ht_ hts mw424) (fun _ h9 => h9) rfl (by decide +kernel) rfl rfl (Nat.le_of_ble_eq_true rfl) d_M_listener_16 (fun H locs hP hD hS => ?_)
    have hP : va_P (dC, dI) vwCl [(aM, .inr (3, [.int 1, .ref mS, .ref mC, .ref mL, .ref mK, .int kn, .ref mQ, .ref mT, .ref mD, .ref mA, .ref mB, .ref mG])), (mS, .inl (cI, 3, .inl zs))] H := hP
    have hD : va_D A [(aM, .inr (3, [.int 1, .ref mS, .ref mC, .ref mL, .ref mK, .int kn, .ref mQ, .ref mT, .ref mD, .ref mA, .ref mB, .ref mG])), (mS, .inl (cI, 3, .inl zs))] := hD
    refine lv_aload_n hx hb d_M_listener_19 rfl (lv_at hl 0 rfl) ?_
    refine va_get (D := (dC, dI)) (ci := 3) (v := .int 1) (C := "RoomEchoesModel") (T := FT_M) (N := 12) hx hb hts (hi_ in_M) hown hK hP 0 rfl rfl 0 (by decide) (ht_ hts mw424) (fun _ h9 => h9) rfl d_M_listener_20 ?_
    refine lv_if_ne (tgt := 52) hx hb d_M_listener_23 (by decide) (fun c_23 => ?_) (fun c_23 => ?_)
    · skip
      have hP9 : va_P (dC, dI) vwCl [(aM, .inr (3, [.int 1, .ref mS, .ref mC, .ref mL, .ref mK, .int kn, .ref mQ, .ref mT, .ref mD, .ref mA, .ref mB, .ref mG])), (mS, .inl (cI, 3, .inl zs))] H := hP
      have hD9 : va_D A [(aM, .inr (3, [.int 1, .ref mS, .ref mC, .ref mL, .ref mK, .int kn, .ref mQ, .ref mT, .ref mD, .ref mA, .ref mB, .ref mG])), (mS, .inl (cI, 3, .inl zs))] := hD
      exact W.vret hx hb hr (fun t ht hW => ⟨⟨(), rfl, trivial, by rw [ht]; exact hP9, hD9⟩, hS.F ht⟩) hS.2.2 d_M_listener_52
    · skip
      exact absurd c_23 (by decide)
  · skip
    exact absurd (by decide) c_8

set_option maxHeartbeats 4000000 in
set_option maxRecDepth 100000 in
theorem c_M_keeps (l : Launch) (dC : Nat → ClassId) (dI : Nat → Nat → Nat) (cI cL : ClassId) (aM : Nat) (th0 : Int32) (kn : Int32) (mS : Nat) (mC : Nat) (mL : Nat) (mK : Nat) (mQ : Nat) (mT : Nat) (mD : Nat) (mA : Nat) (mB : Nat) (mG : Nat) (kp : Nat → Int32) (p0 : Int32) (p1 : Int32) (sz : Nat) (h : wi p0 0 5 ∧ wi p1 0 1000) : Met l y_M_keeps w_M_keeps ({ frames := 1, cells := 0, slots := 0, locals := 25 }) (wr_P (dC, dI) cI cL [(aM, .inr (3, [.int th0, .ref mS, .ref mC, .ref mL, .ref mK, .int kn, .ref mQ, .ref mT, .ref mD, .ref mA, .ref mB, .ref mG])), (mK, .inl (cI, 6, .inl kp))] sz [.ref aM, .int p0, .int p1]) (wr_i (kp p0.toNatClampNeg) (dC, dI) (va_A [(aM, .inr (3, [.int th0, .ref mS, .ref mC, .ref mL, .ref mK, .int kn, .ref mQ, .ref mT, .ref mD, .ref mA, .ref mB, .ref mG])), (mK, .inl (cI, 6, .inl kp))] sz) [(aM, .inr (3, [.int 0, .ref mS, .ref mC, .ref mL, .ref mK, .int kn, .ref mQ, .ref mT, .ref mD, .ref mA, .ref mB, .ref mG])), (mK, .inl (cI, 6, .inl (upd kp p0.toNatClampNeg p1)))]) 0 0 (va_A [(aM, .inr (3, [.int th0, .ref mS, .ref mC, .ref mL, .ref mK, .int kn, .ref mQ, .ref mT, .ref mD, .ref mA, .ref mB, .ref mG])), (mK, .inl (cI, 6, .inl kp))] sz) := by
  refine Met.ofW (cc := b_M_keeps) (maxL := 4) (ret := (some .int)) (by decide) rfl ?_
  intro p e s m args below meth c s₁ B hml hv
  obtain ⟨rfl, hsz, hP, hM, hD0⟩ := hv
  have hx := B.exec
  have hb := B.bytes
  have hr := B.returns
  have hts := atoms_spec (ws := w_M_keeps) B.pre
  have hown : s.vm.findClass "RoomEchoesModel" = some m.cls := findClass_of_methodNamed B.named
  have hlocks := B.notSynchronized
  have hK := hM.1
  subst hsz
  have hD := hD0.self (sz := s.heap.size)
  generalize hAe : va_A [(aM, .inr (3, [.int th0, .ref mS, .ref mC, .ref mL, .ref mK, .int kn, .ref mQ, .ref mT, .ref mD, .ref mA, .ref mB, .ref mG])), (mK, .inl (cI, 6, .inl kp))] s.heap.size = A at hD ⊢
  have hA : ∀ q : Nat, s.heap.size ≤ q → A q := fun q h => by rw [← hAe]; exact Or.inr h
  have hS : va_S A s.heap s.heap [] := va_S.rf
  have hP : va_P (dC, dI) vwCl [(aM, .inr (3, [.int th0, .ref mS, .ref mC, .ref mL, .ref mK, .int kn, .ref mQ, .ref mT, .ref mD, .ref mA, .ref mB, .ref mG])), (mK, .inl (cI, 6, .inl kp))] s.heap := hP
  have hl := lv_entry ([.ref aM, .int p0, .int p1]) (n := 4) (Nat.le_of_ble_eq_true rfl)
  rw [lg_entry_eq]
  generalize (lg_sl ([.ref aM, .int p0, .int p1]) ++ List.replicate (4 - (lg_sl ([.ref aM, .int p0, .int p1])).length) Slot.unset).toArray = ls at hl ⊢
  have hl : lv_has ls 4 [(0, .ref aM), (1, .int p0), (2, .int p1)] := hl
  refine lv_aload_n hx hb d_M_keeps_0 rfl (lv_at hl 0 rfl) ?_
  refine lv_iload_n hx hb d_M_keeps_1 rfl (lv_at hl 1 rfl) ?_
  refine lv_i2l hx hb d_M_keeps_2 rfl ?_
  refine lv_lconst (v := 0) hx hb d_M_keeps_3 (by decide) ?_
  refine lv_ldc2 (v := 5) hx hb hown (ht_ hts mw484) d_M_keeps_4 ?_
  refine rd_c (va_runS (As := [.long p0.toInt64, .long 0, .long 5]) (rest := [.ref aM]) ⟨hx, hb, hml, hown, hts⟩ (c_M_in l p0.toInt64 0 5) (cwS 3 hts (gi_S mw475 mw473 mw474 mw33) rfl rfl rfl (by decide +kernel) ⟨Nat.le_of_ble_eq_true rfl, Nat.le_of_ble_eq_true rfl⟩) st_S rfl rfl hl.1 rfl (lv_room (Nat.le_of_ble_eq_true rfl)) d_M_keeps_7 ⟨Nat.le_of_ble_eq_true rfl, Nat.le_of_ble_eq_true rfl⟩) ?_
  refine tp_i 1 (in_yes (lo := 0) (hi := 5) (by decide) (by decide) h.1) ?_
  refine lv_if_eq (tgt := 29) hx hb d_M_keeps_10 (by decide) (fun c_10 => ?_) (fun c_10 => ?_)
  · skip
    exact absurd c_10 (by decide)
  · skip
    refine lv_iload_n hx hb d_M_keeps_13 rfl (lv_at hl 2 rfl) ?_
    refine lv_i2l hx hb d_M_keeps_14 rfl ?_
    refine lv_lconst (v := 0) hx hb d_M_keeps_15 (by decide) ?_
    refine lv_ldc2 (v := 1000) hx hb hown (ht_ hts mw485) d_M_keeps_16 ?_
    refine rd_c (va_runS (As := [.long p1.toInt64, .long 0, .long 1000]) (rest := [.ref aM]) ⟨hx, hb, hml, hown, hts⟩ (c_M_in l p1.toInt64 0 1000) (cwS 3 hts (gi_S mw475 mw473 mw474 mw33) rfl rfl rfl (by decide +kernel) ⟨Nat.le_of_ble_eq_true rfl, Nat.le_of_ble_eq_true rfl⟩) st_S rfl rfl hl.1 rfl (lv_room (Nat.le_of_ble_eq_true rfl)) d_M_keeps_19 ⟨Nat.le_of_ble_eq_true rfl, Nat.le_of_ble_eq_true rfl⟩) ?_
    refine tp_i 1 (in_yes (lo := 0) (hi := 1000) (by decide) (by decide) h.2) ?_
    refine lv_if_eq (tgt := 29) hx hb d_M_keeps_22 (by decide) (fun c_22 => ?_) (fun c_22 => ?_)
    · skip
      exact absurd c_22 (by decide)
    · skip
      refine lv_iconst (v := 0) hx hb d_M_keeps_25 (by decide) ?_
      refine lv_goto (tgt := 30) hx hb d_M_keeps_26 (by decide) ?_
      refine va_put (D := (dC, dI)) (ci := 3) (v := .int 0) (ty := .int) (C := "RoomEchoesModel") (T := FT_M) (N := 12) hx hb hts (hi_ in_M) ty_M tyo_M nm_M hown hK hP hD hS 0 rfl rfl 0 (by decide) (ht_ hts mw424) (fun _ h9 => h9) rfl (by decide +kernel) rfl rfl (Nat.le_of_ble_eq_true rfl) d_M_keeps_30 (fun H locs hP hD hS => ?_)
      have hP : va_P (dC, dI) vwCl [(aM, .inr (3, [.int 0, .ref mS, .ref mC, .ref mL, .ref mK, .int kn, .ref mQ, .ref mT, .ref mD, .ref mA, .ref mB, .ref mG])), (mK, .inl (cI, 6, .inl kp))] H := hP
      have hD : va_D A [(aM, .inr (3, [.int 0, .ref mS, .ref mC, .ref mL, .ref mK, .int kn, .ref mQ, .ref mT, .ref mD, .ref mA, .ref mB, .ref mG])), (mK, .inl (cI, 6, .inl kp))] := hD
      refine lv_aload_n hx hb d_M_keeps_33 rfl (lv_at hl 0 rfl) ?_
      refine va_get (D := (dC, dI)) (ci := 3) (v := .int 0) (C := "RoomEchoesModel") (T := FT_M) (N := 12) hx hb hts (hi_ in_M) hown hK hP 0 rfl rfl 0 (by decide) (ht_ hts mw424) (fun _ h9 => h9) rfl d_M_keeps_34 ?_
      refine lv_if_le (tgt := 42) hx hb d_M_keeps_37 (by decide) (fun c_37 => ?_) (fun c_37 => ?_)
      · skip
        have k5 := (wi_nI (hi := 5) h.1 (by decide)).2
        refine lv_aload_n hx hb d_M_keeps_42 rfl (lv_at hl 0 rfl) ?_
        refine va_get (D := (dC, dI)) (ci := 3) (v := .ref mK) (C := "RoomEchoesModel") (T := FT_M) (N := 12) hx hb hts (hi_ in_M) hown hK hP 0 rfl rfl 4 (by decide) (ht_ hts mw428) (fun _ h9 => h9) rfl d_M_keeps_43 ?_
        refine lv_iload_n hx hb d_M_keeps_46 rfl (lv_at hl 1 rfl) ?_
        refine tp_i (nI p0.toNatClampNeg) (wi_nI (hi := 5) h.1 (by decide)).1 ?_
        refine va_iald hx hb hK hP 1 0 rfl rfl (vp_in_nI (by omega) (by omega)) d_M_keeps_47 ?_
        refine tp_i (kp p0.toNatClampNeg) (by rw [nI_clamp (by omega)]) ?_
        refine lv_istore_n (lv' := [(3, .int (kp p0.toNatClampNeg)), (0, .ref aM), (1, .int p0), (2, .int p1)]) hx hb d_M_keeps_48 rfl hl (by decide) rfl (fun ls hl => ?_)
        refine lv_aload_n hx hb d_M_keeps_49 rfl (lv_at hl 1 rfl) ?_
        refine va_get (D := (dC, dI)) (ci := 3) (v := .ref mK) (C := "RoomEchoesModel") (T := FT_M) (N := 12) hx hb hts (hi_ in_M) hown hK hP 0 rfl rfl 4 (by decide) (ht_ hts mw428) (fun _ h9 => h9) rfl d_M_keeps_50 ?_
        refine lv_iload_n hx hb d_M_keeps_53 rfl (lv_at hl 2 rfl) ?_
        refine tp_i (nI p0.toNatClampNeg) (wi_nI (hi := 5) h.1 (by decide)).1 ?_
        refine lv_iload_n hx hb d_M_keeps_54 rfl (lv_at hl 3 rfl) ?_
        refine va_iast hx hb hK hP hD hS 1 0 rfl rfl (vp_in_nI (by omega) (by omega)) d_M_keeps_55 (fun H locs hP hD hS => ?_)
        rw [nI_clamp (n := p0.toNatClampNeg) (by omega)] at hP hD
        have hP : va_P (dC, dI) vwCl [(aM, .inr (3, [.int 0, .ref mS, .ref mC, .ref mL, .ref mK, .int kn, .ref mQ, .ref mT, .ref mD, .ref mA, .ref mB, .ref mG])), (mK, .inl (cI, 6, .inl (upd kp p0.toNatClampNeg p1)))] H := hP
        have hD : va_D A [(aM, .inr (3, [.int 0, .ref mS, .ref mC, .ref mL, .ref mK, .int kn, .ref mQ, .ref mT, .ref mD, .ref mA, .ref mB, .ref mG])), (mK, .inl (cI, 6, .inl (upd kp p0.toNatClampNeg p1)))] := hD
        refine lv_iload_n hx hb d_M_keeps_56 rfl (lv_at hl 0 rfl) ?_
        have hP9 : va_P (dC, dI) vwCl [(aM, .inr (3, [.int 0, .ref mS, .ref mC, .ref mL, .ref mK, .int kn, .ref mQ, .ref mT, .ref mD, .ref mA, .ref mB, .ref mG])), (mK, .inl (cI, 6, .inl (upd kp p0.toNatClampNeg p1)))] H := hP
        have hD9 : va_D A [(aM, .inr (3, [.int 0, .ref mS, .ref mC, .ref mL, .ref mK, .int kn, .ref mQ, .ref mT, .ref mD, .ref mA, .ref mB, .ref mG])), (mK, .inl (cI, 6, .inl (upd kp p0.toNatClampNeg p1)))] := hD
        exact W.iret (v := kp p0.toNatClampNeg) hx hb hr (fun t ht hW => ⟨⟨_, (), rfl, rfl, by rw [ht]; exact hP9, hD9⟩, hS.F ht⟩) hS.2.2 d_M_keeps_57
      · skip
        exact absurd (by decide) c_37

set_option maxHeartbeats 4000000 in
set_option maxRecDepth 100000 in
theorem n_M_keeps (l : Launch) (dC : Nat → ClassId) (dI : Nat → Nat → Nat) (cI cL : ClassId) (aM : Nat) (th0 : Int32) (kn : Int32) (mS : Nat) (mC : Nat) (mL : Nat) (mK : Nat) (mQ : Nat) (mT : Nat) (mD : Nat) (mA : Nat) (mB : Nat) (mG : Nat) (p0 : Int32) (p1 : Int32) (sz : Nat) (h : ¬ (wi p0 0 5 ∧ wi p1 0 1000)) : Met l y_M_keeps w_M_keeps ({ frames := 1, cells := 0, slots := 0, locals := 25 }) (wr_P (dC, dI) cI cL [(aM, .inr (3, [.int th0, .ref mS, .ref mC, .ref mL, .ref mK, .int kn, .ref mQ, .ref mT, .ref mD, .ref mA, .ref mB, .ref mG]))] sz [.ref aM, .int p0, .int p1]) (wr_i 0 (dC, dI) (va_A [(aM, .inr (3, [.int th0, .ref mS, .ref mC, .ref mL, .ref mK, .int kn, .ref mQ, .ref mT, .ref mD, .ref mA, .ref mB, .ref mG]))] sz) [(aM, .inr (3, [.int 1, .ref mS, .ref mC, .ref mL, .ref mK, .int kn, .ref mQ, .ref mT, .ref mD, .ref mA, .ref mB, .ref mG]))]) 0 0 (va_A [(aM, .inr (3, [.int th0, .ref mS, .ref mC, .ref mL, .ref mK, .int kn, .ref mQ, .ref mT, .ref mD, .ref mA, .ref mB, .ref mG]))] sz) := by
  refine Met.ofW (cc := b_M_keeps) (maxL := 4) (ret := (some .int)) (by decide) rfl ?_
  intro p e s m args below meth c s₁ B hml hv
  obtain ⟨rfl, hsz, hP, hM, hD0⟩ := hv
  have hx := B.exec
  have hb := B.bytes
  have hr := B.returns
  have hts := atoms_spec (ws := w_M_keeps) B.pre
  have hown : s.vm.findClass "RoomEchoesModel" = some m.cls := findClass_of_methodNamed B.named
  have hlocks := B.notSynchronized
  have hK := hM.1
  subst hsz
  have hD := hD0.self (sz := s.heap.size)
  generalize hAe : va_A [(aM, .inr (3, [.int th0, .ref mS, .ref mC, .ref mL, .ref mK, .int kn, .ref mQ, .ref mT, .ref mD, .ref mA, .ref mB, .ref mG]))] s.heap.size = A at hD ⊢
  have hA : ∀ q : Nat, s.heap.size ≤ q → A q := fun q h => by rw [← hAe]; exact Or.inr h
  have hS : va_S A s.heap s.heap [] := va_S.rf
  have hP : va_P (dC, dI) vwCl [(aM, .inr (3, [.int th0, .ref mS, .ref mC, .ref mL, .ref mK, .int kn, .ref mQ, .ref mT, .ref mD, .ref mA, .ref mB, .ref mG]))] s.heap := hP
  have hl := lv_entry ([.ref aM, .int p0, .int p1]) (n := 4) (Nat.le_of_ble_eq_true rfl)
  rw [lg_entry_eq]
  generalize (lg_sl ([.ref aM, .int p0, .int p1]) ++ List.replicate (4 - (lg_sl ([.ref aM, .int p0, .int p1])).length) Slot.unset).toArray = ls at hl ⊢
  have hl : lv_has ls 4 [(0, .ref aM), (1, .int p0), (2, .int p1)] := hl
  refine lv_aload_n hx hb d_M_keeps_0 rfl (lv_at hl 0 rfl) ?_
  refine lv_iload_n hx hb d_M_keeps_1 rfl (lv_at hl 1 rfl) ?_
  refine lv_i2l hx hb d_M_keeps_2 rfl ?_
  refine lv_lconst (v := 0) hx hb d_M_keeps_3 (by decide) ?_
  refine lv_ldc2 (v := 5) hx hb hown (ht_ hts mw484) d_M_keeps_4 ?_
  refine rd_c (va_runS (As := [.long p0.toInt64, .long 0, .long 5]) (rest := [.ref aM]) ⟨hx, hb, hml, hown, hts⟩ (c_M_in l p0.toInt64 0 5) (cwS 3 hts (gi_S mw475 mw473 mw474 mw33) rfl rfl rfl (by decide +kernel) ⟨Nat.le_of_ble_eq_true rfl, Nat.le_of_ble_eq_true rfl⟩) st_S rfl rfl hl.1 rfl (lv_room (Nat.le_of_ble_eq_true rfl)) d_M_keeps_7 ⟨Nat.le_of_ble_eq_true rfl, Nat.le_of_ble_eq_true rfl⟩) ?_
  refine lv_if_eq (tgt := 29) hx hb d_M_keeps_10 (by decide) (fun c_10 => ?_) (fun c_10 => ?_)
  · skip
    refine lv_iconst (v := 1) hx hb d_M_keeps_29 (by decide) ?_
    refine va_put (D := (dC, dI)) (ci := 3) (v := .int 1) (ty := .int) (C := "RoomEchoesModel") (T := FT_M) (N := 12) hx hb hts (hi_ in_M) ty_M tyo_M nm_M hown hK hP hD hS 0 rfl rfl 0 (by decide) (ht_ hts mw424) (fun _ h9 => h9) rfl (by decide +kernel) rfl rfl (Nat.le_of_ble_eq_true rfl) d_M_keeps_30 (fun H locs hP hD hS => ?_)
    have hP : va_P (dC, dI) vwCl [(aM, .inr (3, [.int 1, .ref mS, .ref mC, .ref mL, .ref mK, .int kn, .ref mQ, .ref mT, .ref mD, .ref mA, .ref mB, .ref mG]))] H := hP
    have hD : va_D A [(aM, .inr (3, [.int 1, .ref mS, .ref mC, .ref mL, .ref mK, .int kn, .ref mQ, .ref mT, .ref mD, .ref mA, .ref mB, .ref mG]))] := hD
    refine lv_aload_n hx hb d_M_keeps_33 rfl (lv_at hl 0 rfl) ?_
    refine va_get (D := (dC, dI)) (ci := 3) (v := .int 1) (C := "RoomEchoesModel") (T := FT_M) (N := 12) hx hb hts (hi_ in_M) hown hK hP 0 rfl rfl 0 (by decide) (ht_ hts mw424) (fun _ h9 => h9) rfl d_M_keeps_34 ?_
    refine lv_if_le (tgt := 42) hx hb d_M_keeps_37 (by decide) (fun c_37 => ?_) (fun c_37 => ?_)
    · skip
      exact absurd c_37 (by decide)
    · skip
      refine lv_iconst (v := 0) hx hb d_M_keeps_40 (by decide) ?_
      have hP9 : va_P (dC, dI) vwCl [(aM, .inr (3, [.int 1, .ref mS, .ref mC, .ref mL, .ref mK, .int kn, .ref mQ, .ref mT, .ref mD, .ref mA, .ref mB, .ref mG]))] H := hP
      have hD9 : va_D A [(aM, .inr (3, [.int 1, .ref mS, .ref mC, .ref mL, .ref mK, .int kn, .ref mQ, .ref mT, .ref mD, .ref mA, .ref mB, .ref mG]))] := hD
      exact W.iret (v := 0) hx hb hr (fun t ht hW => ⟨⟨_, (), rfl, rfl, by rw [ht]; exact hP9, hD9⟩, hS.F ht⟩) hS.2.2 d_M_keeps_41
  · skip
    refine lv_iload_n hx hb d_M_keeps_13 rfl (lv_at hl 2 rfl) ?_
    refine lv_i2l hx hb d_M_keeps_14 rfl ?_
    refine lv_lconst (v := 0) hx hb d_M_keeps_15 (by decide) ?_
    refine lv_ldc2 (v := 1000) hx hb hown (ht_ hts mw485) d_M_keeps_16 ?_
    refine rd_c (va_runS (As := [.long p1.toInt64, .long 0, .long 1000]) (rest := [.ref aM]) ⟨hx, hb, hml, hown, hts⟩ (c_M_in l p1.toInt64 0 1000) (cwS 3 hts (gi_S mw475 mw473 mw474 mw33) rfl rfl rfl (by decide +kernel) ⟨Nat.le_of_ble_eq_true rfl, Nat.le_of_ble_eq_true rfl⟩) st_S rfl rfl hl.1 rfl (lv_room (Nat.le_of_ble_eq_true rfl)) d_M_keeps_19 ⟨Nat.le_of_ble_eq_true rfl, Nat.le_of_ble_eq_true rfl⟩) ?_
    refine lv_if_eq (tgt := 29) hx hb d_M_keeps_22 (by decide) (fun c_22 => ?_) (fun c_22 => ?_)
    · skip
      refine lv_iconst (v := 1) hx hb d_M_keeps_29 (by decide) ?_
      refine va_put (D := (dC, dI)) (ci := 3) (v := .int 1) (ty := .int) (C := "RoomEchoesModel") (T := FT_M) (N := 12) hx hb hts (hi_ in_M) ty_M tyo_M nm_M hown hK hP hD hS 0 rfl rfl 0 (by decide) (ht_ hts mw424) (fun _ h9 => h9) rfl (by decide +kernel) rfl rfl (Nat.le_of_ble_eq_true rfl) d_M_keeps_30 (fun H locs hP hD hS => ?_)
      have hP : va_P (dC, dI) vwCl [(aM, .inr (3, [.int 1, .ref mS, .ref mC, .ref mL, .ref mK, .int kn, .ref mQ, .ref mT, .ref mD, .ref mA, .ref mB, .ref mG]))] H := hP
      have hD : va_D A [(aM, .inr (3, [.int 1, .ref mS, .ref mC, .ref mL, .ref mK, .int kn, .ref mQ, .ref mT, .ref mD, .ref mA, .ref mB, .ref mG]))] := hD
      refine lv_aload_n hx hb d_M_keeps_33 rfl (lv_at hl 0 rfl) ?_
      refine va_get (D := (dC, dI)) (ci := 3) (v := .int 1) (C := "RoomEchoesModel") (T := FT_M) (N := 12) hx hb hts (hi_ in_M) hown hK hP 0 rfl rfl 0 (by decide) (ht_ hts mw424) (fun _ h9 => h9) rfl d_M_keeps_34 ?_
      refine lv_if_le (tgt := 42) hx hb d_M_keeps_37 (by decide) (fun c_37 => ?_) (fun c_37 => ?_)
      · skip
        exact absurd c_37 (by decide)
      · skip
        refine lv_iconst (v := 0) hx hb d_M_keeps_40 (by decide) ?_
        have hP9 : va_P (dC, dI) vwCl [(aM, .inr (3, [.int 1, .ref mS, .ref mC, .ref mL, .ref mK, .int kn, .ref mQ, .ref mT, .ref mD, .ref mA, .ref mB, .ref mG]))] H := hP
        have hD9 : va_D A [(aM, .inr (3, [.int 1, .ref mS, .ref mC, .ref mL, .ref mK, .int kn, .ref mQ, .ref mT, .ref mD, .ref mA, .ref mB, .ref mG]))] := hD
        exact W.iret (v := 0) hx hb hr (fun t ht hW => ⟨⟨_, (), rfl, rfl, by rw [ht]; exact hP9, hD9⟩, hS.F ht⟩) hS.2.2 d_M_keeps_41
    · skip
      exact absurd ⟨in_n (lo := 0) (hi := 5) (by decide) (by decide) c_10, in_n (lo := 0) (hi := 1000) (by decide) (by decide) c_22⟩ h

set_option maxHeartbeats 4000000 in
set_option maxRecDepth 100000 in
theorem c_M_image (l : Launch) (dC : Nat → ClassId) (dI : Nat → Nat → Nat) (cI cL : ClassId) (aM : Nat) (th0 : Int32) (kn : Int32) (mS : Nat) (mC : Nat) (mL : Nat) (mK : Nat) (mQ : Nat) (mT : Nat) (mD : Nat) (mA : Nat) (mB : Nat) (mG : Nat) (zs : Nat → Int32) (sc : Nat → Int32) (li : Nat → Int32) (kp : Nat → Int32) (a : Int32) (b : Int32) (c9 : Int32) (what : Int32) (sz : Nat) (hax : ax3k zs sc li) (h : wn3 a b c9 ∧ wi what 0 3) : Met l y_M_image w_M_image ({ frames := 3, cells := 0, slots := 0, locals := 76 }) (wr_P (dC, dI) cI cL [(aM, .inr (3, [.int th0, .ref mS, .ref mC, .ref mL, .ref mK, .int kn, .ref mQ, .ref mT, .ref mD, .ref mA, .ref mB, .ref mG])), (mS, .inl (cI, 3, .inl zs)), (mC, .inl (cI, 3, .inl sc)), (mL, .inl (cI, 3, .inl li)), (mK, .inl (cI, 6, .inl kp))] sz [.ref aM, .int a, .int b, .int c9, .int what]) (wr_l (j_M_told zs sc li kp a b c9 what) (dC, dI) (va_A [(aM, .inr (3, [.int th0, .ref mS, .ref mC, .ref mL, .ref mK, .int kn, .ref mQ, .ref mT, .ref mD, .ref mA, .ref mB, .ref mG])), (mS, .inl (cI, 3, .inl zs)), (mC, .inl (cI, 3, .inl sc)), (mL, .inl (cI, 3, .inl li)), (mK, .inl (cI, 6, .inl kp))] sz) [(aM, .inr (3, [.int 0, .ref mS, .ref mC, .ref mL, .ref mK, .int kn, .ref mQ, .ref mT, .ref mD, .ref mA, .ref mB, .ref mG])), (mS, .inl (cI, 3, .inl zs)), (mC, .inl (cI, 3, .inl sc)), (mL, .inl (cI, 3, .inl li)), (mK, .inl (cI, 6, .inl kp))]) 0 0 (va_A [(aM, .inr (3, [.int th0, .ref mS, .ref mC, .ref mL, .ref mK, .int kn, .ref mQ, .ref mT, .ref mD, .ref mA, .ref mB, .ref mG])), (mS, .inl (cI, 3, .inl zs)), (mC, .inl (cI, 3, .inl sc)), (mL, .inl (cI, 3, .inl li)), (mK, .inl (cI, 6, .inl kp))] sz) := by
  refine Met.ofW (cc := b_M_image) (maxL := 5) (ret := (some .long)) (by decide) rfl ?_
  intro p e s m args below meth c s₁ B hml hv
  obtain ⟨rfl, hsz, hP, hM, hD0⟩ := hv
  have hx := B.exec
  have hb := B.bytes
  have hr := B.returns
  have hts := atoms_spec (ws := w_M_image) B.pre
  have hown : s.vm.findClass "RoomEchoesModel" = some m.cls := findClass_of_methodNamed B.named
  have hlocks := B.notSynchronized
  have hK := hM.1
  subst hsz
  have hD := hD0.self (sz := s.heap.size)
  generalize hAe : va_A [(aM, .inr (3, [.int th0, .ref mS, .ref mC, .ref mL, .ref mK, .int kn, .ref mQ, .ref mT, .ref mD, .ref mA, .ref mB, .ref mG])), (mS, .inl (cI, 3, .inl zs)), (mC, .inl (cI, 3, .inl sc)), (mL, .inl (cI, 3, .inl li)), (mK, .inl (cI, 6, .inl kp))] s.heap.size = A at hD ⊢
  have hA : ∀ q : Nat, s.heap.size ≤ q → A q := fun q h => by rw [← hAe]; exact Or.inr h
  have hS : va_S A s.heap s.heap [] := va_S.rf
  have hP : va_P (dC, dI) vwCl [(aM, .inr (3, [.int th0, .ref mS, .ref mC, .ref mL, .ref mK, .int kn, .ref mQ, .ref mT, .ref mD, .ref mA, .ref mB, .ref mG])), (mS, .inl (cI, 3, .inl zs)), (mC, .inl (cI, 3, .inl sc)), (mL, .inl (cI, 3, .inl li)), (mK, .inl (cI, 6, .inl kp))] s.heap := hP
  have hl := lv_entry ([.ref aM, .int a, .int b, .int c9, .int what]) (n := 5) (Nat.le_of_ble_eq_true rfl)
  rw [lg_entry_eq]
  generalize (lg_sl ([.ref aM, .int a, .int b, .int c9, .int what]) ++ List.replicate (5 - (lg_sl ([.ref aM, .int a, .int b, .int c9, .int what])).length) Slot.unset).toArray = ls at hl ⊢
  have hl : lv_has ls 5 [(0, .ref aM), (1, .int a), (2, .int b), (3, .int c9), (4, .int what)] := hl
  refine lv_aload_n hx hb d_M_image_0 rfl (lv_at hl 0 rfl) ?_
  refine lv_iload_n hx hb d_M_image_1 rfl (lv_at hl 1 rfl) ?_
  refine lv_iload_n hx hb d_M_image_2 rfl (lv_at hl 2 rfl) ?_
  refine lv_iload_n hx hb d_M_image_3 rfl (lv_at hl 3 rfl) ?_
  refine rd_c (va_runS (As := [.int a, .int b, .int c9]) (rest := [.ref aM]) ⟨hx, hb, hml, hown, hts⟩ (c_M_isImage l a b c9) (cwS 3 hts (gi_S mw492 mw490 mw491 mw33) rfl rfl rfl (by decide +kernel) ⟨Nat.le_of_ble_eq_true rfl, Nat.le_of_ble_eq_true rfl⟩) st_S rfl rfl hl.1 rfl (lv_room (Nat.le_of_ble_eq_true rfl)) d_M_image_4 ⟨Nat.le_of_ble_eq_true rfl, Nat.le_of_ble_eq_true rfl⟩) ?_
  refine tp_i 1 (im_yes h.1) ?_
  refine lv_if_eq (tgt := 27) hx hb d_M_image_7 (by decide) (fun c_7 => ?_) (fun c_7 => ?_)
  · skip
    exact absurd c_7 (by decide)
  · skip
    refine lv_iload hx hb d_M_image_10 (lv_at hl 4 rfl) ?_
    refine lv_i2l hx hb d_M_image_12 rfl ?_
    refine lv_lconst (v := 0) hx hb d_M_image_13 (by decide) ?_
    refine lv_ldc2 (v := 3) hx hb hown (ht_ hts mw495) d_M_image_14 ?_
    refine rd_c (va_runS (As := [.long what.toInt64, .long 0, .long 3]) (rest := [.ref aM]) ⟨hx, hb, hml, hown, hts⟩ (c_M_in l what.toInt64 0 3) (cwS 3 hts (gi_S mw475 mw473 mw474 mw33) rfl rfl rfl (by decide +kernel) ⟨Nat.le_of_ble_eq_true rfl, Nat.le_of_ble_eq_true rfl⟩) st_S rfl rfl hl.1 rfl (lv_room (Nat.le_of_ble_eq_true rfl)) d_M_image_17 ⟨Nat.le_of_ble_eq_true rfl, Nat.le_of_ble_eq_true rfl⟩) ?_
    refine tp_i 1 (in_yes (lo := 0) (hi := 3) (by decide) (by decide) h.2) ?_
    refine lv_if_eq (tgt := 27) hx hb d_M_image_20 (by decide) (fun c_20 => ?_) (fun c_20 => ?_)
    · skip
      exact absurd c_20 (by decide)
    · skip
      refine lv_iconst (v := 0) hx hb d_M_image_23 (by decide) ?_
      refine lv_goto (tgt := 28) hx hb d_M_image_24 (by decide) ?_
      refine va_put (D := (dC, dI)) (ci := 3) (v := .int 0) (ty := .int) (C := "RoomEchoesModel") (T := FT_M) (N := 12) hx hb hts (hi_ in_M) ty_M tyo_M nm_M hown hK hP hD hS 0 rfl rfl 0 (by decide) (ht_ hts mw424) (fun _ h9 => h9) rfl (by decide +kernel) rfl rfl (Nat.le_of_ble_eq_true rfl) d_M_image_28 (fun H locs hP hD hS => ?_)
      have hP : va_P (dC, dI) vwCl [(aM, .inr (3, [.int 0, .ref mS, .ref mC, .ref mL, .ref mK, .int kn, .ref mQ, .ref mT, .ref mD, .ref mA, .ref mB, .ref mG])), (mS, .inl (cI, 3, .inl zs)), (mC, .inl (cI, 3, .inl sc)), (mL, .inl (cI, 3, .inl li)), (mK, .inl (cI, 6, .inl kp))] H := hP
      have hD : va_D A [(aM, .inr (3, [.int 0, .ref mS, .ref mC, .ref mL, .ref mK, .int kn, .ref mQ, .ref mT, .ref mD, .ref mA, .ref mB, .ref mG])), (mS, .inl (cI, 3, .inl zs)), (mC, .inl (cI, 3, .inl sc)), (mL, .inl (cI, 3, .inl li)), (mK, .inl (cI, 6, .inl kp))] := hD
      refine lv_aload_n hx hb d_M_image_31 rfl (lv_at hl 0 rfl) ?_
      refine va_get (D := (dC, dI)) (ci := 3) (v := .int 0) (C := "RoomEchoesModel") (T := FT_M) (N := 12) hx hb hts (hi_ in_M) hown hK hP 0 rfl rfl 0 (by decide) (ht_ hts mw424) (fun _ h9 => h9) rfl d_M_image_32 ?_
      refine lv_if_le (tgt := 42) hx hb d_M_image_35 (by decide) (fun c_35 => ?_) (fun c_35 => ?_)
      · skip
        refine lv_aload_n hx hb d_M_image_42 rfl (lv_at hl 0 rfl) ?_
        refine lv_iload_n hx hb d_M_image_43 rfl (lv_at hl 1 rfl) ?_
        refine lv_iload_n hx hb d_M_image_44 rfl (lv_at hl 2 rfl) ?_
        refine lv_iload_n hx hb d_M_image_45 rfl (lv_at hl 3 rfl) ?_
        refine lv_iload hx hb d_M_image_46 (lv_at hl 4 rfl) ?_
        have hPc := hP.sub (ws' := [(aM, .inr (3, [.int 0, .ref mS, .ref mC, .ref mL, .ref mK, .int kn, .ref mQ, .ref mT, .ref mD, .ref mA, .ref mB, .ref mG])), (mS, .inl (cI, 3, .inl zs)), (mC, .inl (cI, 3, .inl sc)), (mL, .inl (cI, 3, .inl li)), (mK, .inl (cI, 6, .inl kp))]) [0, 1, 2, 3, 4] rfl
        refine rd_c (va_runV (As := [.int a, .int b, .int c9, .int what]) (rest := []) ⟨hx, hb, hml, hown, hts⟩ (c_M_told l dC dI cI cL aM 0 kn mS mC mL mK mQ mT mD mA mB mG zs sc li kp a b c9 what (ne_1 hax h.1)) (cwV 4 hts (gi_V mw499 mw496 mw498 mw15 mw33) rfl rfl rfl (by decide +kernel) ⟨Nat.le_of_ble_eq_true rfl, Nat.le_of_ble_eq_true rfl⟩) (rd_V hM hPc rfl rfl rfl) rfl rfl hl.1 rfl (lv_room (Nat.le_of_ble_eq_true rfl)) d_M_image_48 ⟨Nat.le_of_ble_eq_true rfl, Nat.le_of_ble_eq_true rfl⟩) ?_
        have hP9 : va_P (dC, dI) vwCl [(aM, .inr (3, [.int 0, .ref mS, .ref mC, .ref mL, .ref mK, .int kn, .ref mQ, .ref mT, .ref mD, .ref mA, .ref mB, .ref mG])), (mS, .inl (cI, 3, .inl zs)), (mC, .inl (cI, 3, .inl sc)), (mL, .inl (cI, 3, .inl li)), (mK, .inl (cI, 6, .inl kp))] H := hP
        have hD9 : va_D A [(aM, .inr (3, [.int 0, .ref mS, .ref mC, .ref mL, .ref mK, .int kn, .ref mQ, .ref mT, .ref mD, .ref mA, .ref mB, .ref mG])), (mS, .inl (cI, 3, .inl zs)), (mC, .inl (cI, 3, .inl sc)), (mL, .inl (cI, 3, .inl li)), (mK, .inl (cI, 6, .inl kp))] := hD
        exact W.lret (v := j_M_told zs sc li kp a b c9 what) hx hb hr (fun t ht hW => ⟨⟨_, (), rfl, rfl, by rw [ht]; exact hP9, hD9⟩, hS.F ht⟩) hS.2.2 d_M_image_51
      · skip
        exact absurd (by decide) c_35

set_option maxHeartbeats 4000000 in
set_option maxRecDepth 100000 in
theorem n_M_image (l : Launch) (dC : Nat → ClassId) (dI : Nat → Nat → Nat) (cI cL : ClassId) (aM : Nat) (th0 : Int32) (kn : Int32) (mS : Nat) (mC : Nat) (mL : Nat) (mK : Nat) (mQ : Nat) (mT : Nat) (mD : Nat) (mA : Nat) (mB : Nat) (mG : Nat) (a : Int32) (b : Int32) (c9 : Int32) (what : Int32) (sz : Nat) (h : ¬ (wn3 a b c9 ∧ wi what 0 3)) : Met l y_M_image w_M_image ({ frames := 2, cells := 0, slots := 0, locals := 47 }) (wr_P (dC, dI) cI cL [(aM, .inr (3, [.int th0, .ref mS, .ref mC, .ref mL, .ref mK, .int kn, .ref mQ, .ref mT, .ref mD, .ref mA, .ref mB, .ref mG]))] sz [.ref aM, .int a, .int b, .int c9, .int what]) (wr_l 0 (dC, dI) (va_A [(aM, .inr (3, [.int th0, .ref mS, .ref mC, .ref mL, .ref mK, .int kn, .ref mQ, .ref mT, .ref mD, .ref mA, .ref mB, .ref mG]))] sz) [(aM, .inr (3, [.int 1, .ref mS, .ref mC, .ref mL, .ref mK, .int kn, .ref mQ, .ref mT, .ref mD, .ref mA, .ref mB, .ref mG]))]) 0 0 (va_A [(aM, .inr (3, [.int th0, .ref mS, .ref mC, .ref mL, .ref mK, .int kn, .ref mQ, .ref mT, .ref mD, .ref mA, .ref mB, .ref mG]))] sz) := by
  refine Met.ofW (cc := b_M_image) (maxL := 5) (ret := (some .long)) (by decide) rfl ?_
  intro p e s m args below meth c s₁ B hml hv
  obtain ⟨rfl, hsz, hP, hM, hD0⟩ := hv
  have hx := B.exec
  have hb := B.bytes
  have hr := B.returns
  have hts := atoms_spec (ws := w_M_image) B.pre
  have hown : s.vm.findClass "RoomEchoesModel" = some m.cls := findClass_of_methodNamed B.named
  have hlocks := B.notSynchronized
  have hK := hM.1
  subst hsz
  have hD := hD0.self (sz := s.heap.size)
  generalize hAe : va_A [(aM, .inr (3, [.int th0, .ref mS, .ref mC, .ref mL, .ref mK, .int kn, .ref mQ, .ref mT, .ref mD, .ref mA, .ref mB, .ref mG]))] s.heap.size = A at hD ⊢
  have hA : ∀ q : Nat, s.heap.size ≤ q → A q := fun q h => by rw [← hAe]; exact Or.inr h
  have hS : va_S A s.heap s.heap [] := va_S.rf
  have hP : va_P (dC, dI) vwCl [(aM, .inr (3, [.int th0, .ref mS, .ref mC, .ref mL, .ref mK, .int kn, .ref mQ, .ref mT, .ref mD, .ref mA, .ref mB, .ref mG]))] s.heap := hP
  have hl := lv_entry ([.ref aM, .int a, .int b, .int c9, .int what]) (n := 5) (Nat.le_of_ble_eq_true rfl)
  rw [lg_entry_eq]
  generalize (lg_sl ([.ref aM, .int a, .int b, .int c9, .int what]) ++ List.replicate (5 - (lg_sl ([.ref aM, .int a, .int b, .int c9, .int what])).length) Slot.unset).toArray = ls at hl ⊢
  have hl : lv_has ls 5 [(0, .ref aM), (1, .int a), (2, .int b), (3, .int c9), (4, .int what)] := hl
  refine lv_aload_n hx hb d_M_image_0 rfl (lv_at hl 0 rfl) ?_
  refine lv_iload_n hx hb d_M_image_1 rfl (lv_at hl 1 rfl) ?_
  refine lv_iload_n hx hb d_M_image_2 rfl (lv_at hl 2 rfl) ?_
  refine lv_iload_n hx hb d_M_image_3 rfl (lv_at hl 3 rfl) ?_
  refine rd_c (va_runS (As := [.int a, .int b, .int c9]) (rest := [.ref aM]) ⟨hx, hb, hml, hown, hts⟩ (c_M_isImage l a b c9) (cwS 3 hts (gi_S mw492 mw490 mw491 mw33) rfl rfl rfl (by decide +kernel) ⟨Nat.le_of_ble_eq_true rfl, Nat.le_of_ble_eq_true rfl⟩) st_S rfl rfl hl.1 rfl (lv_room (Nat.le_of_ble_eq_true rfl)) d_M_image_4 ⟨Nat.le_of_ble_eq_true rfl, Nat.le_of_ble_eq_true rfl⟩) ?_
  refine lv_if_eq (tgt := 27) hx hb d_M_image_7 (by decide) (fun c_7 => ?_) (fun c_7 => ?_)
  · skip
    refine lv_iconst (v := 1) hx hb d_M_image_27 (by decide) ?_
    refine va_put (D := (dC, dI)) (ci := 3) (v := .int 1) (ty := .int) (C := "RoomEchoesModel") (T := FT_M) (N := 12) hx hb hts (hi_ in_M) ty_M tyo_M nm_M hown hK hP hD hS 0 rfl rfl 0 (by decide) (ht_ hts mw424) (fun _ h9 => h9) rfl (by decide +kernel) rfl rfl (Nat.le_of_ble_eq_true rfl) d_M_image_28 (fun H locs hP hD hS => ?_)
    have hP : va_P (dC, dI) vwCl [(aM, .inr (3, [.int 1, .ref mS, .ref mC, .ref mL, .ref mK, .int kn, .ref mQ, .ref mT, .ref mD, .ref mA, .ref mB, .ref mG]))] H := hP
    have hD : va_D A [(aM, .inr (3, [.int 1, .ref mS, .ref mC, .ref mL, .ref mK, .int kn, .ref mQ, .ref mT, .ref mD, .ref mA, .ref mB, .ref mG]))] := hD
    refine lv_aload_n hx hb d_M_image_31 rfl (lv_at hl 0 rfl) ?_
    refine va_get (D := (dC, dI)) (ci := 3) (v := .int 1) (C := "RoomEchoesModel") (T := FT_M) (N := 12) hx hb hts (hi_ in_M) hown hK hP 0 rfl rfl 0 (by decide) (ht_ hts mw424) (fun _ h9 => h9) rfl d_M_image_32 ?_
    refine lv_if_le (tgt := 42) hx hb d_M_image_35 (by decide) (fun c_35 => ?_) (fun c_35 => ?_)
    · skip
      exact absurd c_35 (by decide)
    · skip
      refine lv_lconst (v := 0) hx hb d_M_image_38 (by decide) ?_
      refine lv_goto (tgt := 51) hx hb d_M_image_39 (by decide) ?_
      have hP9 : va_P (dC, dI) vwCl [(aM, .inr (3, [.int 1, .ref mS, .ref mC, .ref mL, .ref mK, .int kn, .ref mQ, .ref mT, .ref mD, .ref mA, .ref mB, .ref mG]))] H := hP
      have hD9 : va_D A [(aM, .inr (3, [.int 1, .ref mS, .ref mC, .ref mL, .ref mK, .int kn, .ref mQ, .ref mT, .ref mD, .ref mA, .ref mB, .ref mG]))] := hD
      exact W.lret (v := 0) hx hb hr (fun t ht hW => ⟨⟨_, (), rfl, rfl, by rw [ht]; exact hP9, hD9⟩, hS.F ht⟩) hS.2.2 d_M_image_51
  · skip
    refine lv_iload hx hb d_M_image_10 (lv_at hl 4 rfl) ?_
    refine lv_i2l hx hb d_M_image_12 rfl ?_
    refine lv_lconst (v := 0) hx hb d_M_image_13 (by decide) ?_
    refine lv_ldc2 (v := 3) hx hb hown (ht_ hts mw495) d_M_image_14 ?_
    refine rd_c (va_runS (As := [.long what.toInt64, .long 0, .long 3]) (rest := [.ref aM]) ⟨hx, hb, hml, hown, hts⟩ (c_M_in l what.toInt64 0 3) (cwS 3 hts (gi_S mw475 mw473 mw474 mw33) rfl rfl rfl (by decide +kernel) ⟨Nat.le_of_ble_eq_true rfl, Nat.le_of_ble_eq_true rfl⟩) st_S rfl rfl hl.1 rfl (lv_room (Nat.le_of_ble_eq_true rfl)) d_M_image_17 ⟨Nat.le_of_ble_eq_true rfl, Nat.le_of_ble_eq_true rfl⟩) ?_
    refine lv_if_eq (tgt := 27) hx hb d_M_image_20 (by decide) (fun c_20 => ?_) (fun c_20 => ?_)
    · skip
      refine lv_iconst (v := 1) hx hb d_M_image_27 (by decide) ?_
      refine va_put (D := (dC, dI)) (ci := 3) (v := .int 1) (ty := .int) (C := "RoomEchoesModel") (T := FT_M) (N := 12) hx hb hts (hi_ in_M) ty_M tyo_M nm_M hown hK hP hD hS 0 rfl rfl 0 (by decide) (ht_ hts mw424) (fun _ h9 => h9) rfl (by decide +kernel) rfl rfl (Nat.le_of_ble_eq_true rfl) d_M_image_28 (fun H locs hP hD hS => ?_)
      have hP : va_P (dC, dI) vwCl [(aM, .inr (3, [.int 1, .ref mS, .ref mC, .ref mL, .ref mK, .int kn, .ref mQ, .ref mT, .ref mD, .ref mA, .ref mB, .ref mG]))] H := hP
      have hD : va_D A [(aM, .inr (3, [.int 1, .ref mS, .ref mC, .ref mL, .ref mK, .int kn, .ref mQ, .ref mT, .ref mD, .ref mA, .ref mB, .ref mG]))] := hD
      refine lv_aload_n hx hb d_M_image_31 rfl (lv_at hl 0 rfl) ?_
      refine va_get (D := (dC, dI)) (ci := 3) (v := .int 1) (C := "RoomEchoesModel") (T := FT_M) (N := 12) hx hb hts (hi_ in_M) hown hK hP 0 rfl rfl 0 (by decide) (ht_ hts mw424) (fun _ h9 => h9) rfl d_M_image_32 ?_
      refine lv_if_le (tgt := 42) hx hb d_M_image_35 (by decide) (fun c_35 => ?_) (fun c_35 => ?_)
      · skip
        exact absurd c_35 (by decide)
      · skip
        refine lv_lconst (v := 0) hx hb d_M_image_38 (by decide) ?_
        refine lv_goto (tgt := 51) hx hb d_M_image_39 (by decide) ?_
        have hP9 : va_P (dC, dI) vwCl [(aM, .inr (3, [.int 1, .ref mS, .ref mC, .ref mL, .ref mK, .int kn, .ref mQ, .ref mT, .ref mD, .ref mA, .ref mB, .ref mG]))] H := hP
        have hD9 : va_D A [(aM, .inr (3, [.int 1, .ref mS, .ref mC, .ref mL, .ref mK, .int kn, .ref mQ, .ref mT, .ref mD, .ref mA, .ref mB, .ref mG]))] := hD
        exact W.lret (v := 0) hx hb hr (fun t ht hW => ⟨⟨_, (), rfl, rfl, by rw [ht]; exact hP9, hD9⟩, hS.F ht⟩) hS.2.2 d_M_image_51
    · skip
      exact absurd ⟨im_n c_7, in_n (lo := 0) (hi := 3) (by decide) (by decide) c_20⟩ h

set_option maxHeartbeats 4000000 in
set_option maxRecDepth 100000 in
theorem c_M_make1 (l : Launch) (dC : Nat → ClassId) (dI : Nat → Nat → Nat) (cI cL : ClassId) (aM : Nat) (th0 : Int32) (mS : Nat) (mC : Nat) (mL : Nat) (mK : Nat) (mQ : Nat) (mT : Nat) (mD : Nat) (mA : Nat) (mB : Nat) (mG : Nat) : Met l y_M_make w_M_make ({ frames := 0, cells := 0, slots := 0, locals := 0 }) (rd_P (dC, dI) cI cL [(aM, .inr (3, [.int th0, .ref mS, .ref mC, .ref mL, .ref mK, .int 1, .ref mQ, .ref mT, .ref mD, .ref mA, .ref mB, .ref mG]))] [.ref aM]) (va_Sv (fun _ => True)) 0 0 (fun _ => False) := by
  refine Met.ofW (cc := b_M_make) (maxL := 7) (ret := none) (by decide) rfl ?_
  intro p e s m args below meth c s₁ B hml hv
  obtain ⟨rfl, hP, hM⟩ := hv
  have hx := B.exec
  have hb := B.bytes
  have hr := B.returns
  have hts := atoms_spec (ws := w_M_make) B.pre
  have hown : s.vm.findClass "RoomEchoesModel" = some m.cls := findClass_of_methodNamed B.named
  have hlocks := B.notSynchronized
  have hK := hM.1
  have hl := lv_entry ([.ref aM]) (n := 7) (Nat.le_of_ble_eq_true rfl)
  rw [lg_entry_eq]
  generalize (lg_sl ([.ref aM]) ++ List.replicate (7 - (lg_sl ([.ref aM])).length) Slot.unset).toArray = ls at hl ⊢
  have hl : lv_has ls 7 [(0, .ref aM)] := hl
  refine lv_aload_n hx hb d_M_make_0 rfl (lv_at hl 0 rfl) ?_
  refine va_get (D := (dC, dI)) (ci := 3) (v := .int 1) (C := "RoomEchoesModel") (T := FT_M) (N := 12) hx hb hts (hi_ in_M) hown hK hP 0 rfl rfl 5 (by decide) (ht_ hts mw429) (fun _ h9 => h9) rfl d_M_make_1 ?_
  refine lv_if_eq (tgt := 8) hx hb d_M_make_4 (by decide) (fun c_4 => ?_) (fun c_4 => ?_)
  · skip
    exact absurd c_4 (by decide)
  · skip
    exact W.vret hx hb hr (fun t ht hW => ⟨rfl, trivial, ht⟩) (fun q h => by cases h) d_M_make_7

set_option maxHeartbeats 4000000 in
set_option maxRecDepth 100000 in
theorem c_M_loudness (l : Launch) (dC : Nat → ClassId) (dI : Nat → Nat → Nat) (cI cL : ClassId) (aM : Nat) (th0 : Int32) (kn : Int32) (mS : Nat) (mC : Nat) (mL : Nat) (mK : Nat) (mQ : Nat) (mT : Nat) (mD : Nat) (mA : Nat) (mB : Nat) (mG : Nat) (zs : Nat → Int32) (sc : Nat → Int32) (li : Nat → Int32) (as : Nat → Int32) (bs : Nat → Int32) (cs : Nat → Int32) (kp : Nat → Int32) (k : Nat) (hk : k < 500) (hne : (1 : Int64) + j_M_distance zs sc li (as k) (bs k) (cs k) ≠ 0) : Met l y_M_loudness w_M_loudness ({ frames := 3, cells := 0, slots := 0, locals := 76 }) (rd_P (dC, dI) cI cL [(aM, .inr (3, [.int th0, .ref mS, .ref mC, .ref mL, .ref mK, .int kn, .ref mQ, .ref mT, .ref mD, .ref mA, .ref mB, .ref mG])), (mS, .inl (cI, 3, .inl zs)), (mC, .inl (cI, 3, .inl sc)), (mL, .inl (cI, 3, .inl li)), (mA, .inl (cI, 500, .inl as)), (mB, .inl (cI, 500, .inl bs)), (mG, .inl (cI, 500, .inl cs)), (mK, .inl (cI, 6, .inl kp))] [.ref aM, .int (nI k)]) (k2_QcV (.long (mlo zs sc li kp as bs cs k))) 0 0 (fun _ => False) := by
  refine Met.ofW (cc := b_M_loudness) (maxL := 2) (ret := (some .long)) (by decide) rfl ?_
  intro p e s m args below meth c s₁ B hml hv
  obtain ⟨rfl, hP, hM⟩ := hv
  have hx := B.exec
  have hb := B.bytes
  have hr := B.returns
  have hts := atoms_spec (ws := w_M_loudness) B.pre
  have hown : s.vm.findClass "RoomEchoesModel" = some m.cls := findClass_of_methodNamed B.named
  have hlocks := B.notSynchronized
  have hK := hM.1
  have hl := lv_entry ([.ref aM, .int (nI k)]) (n := 2) (Nat.le_of_ble_eq_true rfl)
  rw [lg_entry_eq]
  generalize (lg_sl ([.ref aM, .int (nI k)]) ++ List.replicate (2 - (lg_sl ([.ref aM, .int (nI k)])).length) Slot.unset).toArray = ls at hl ⊢
  have hl : lv_has ls 2 [(0, .ref aM), (1, .int (nI k))] := hl
  refine lv_aload_n hx hb d_M_loudness_0 rfl (lv_at hl 0 rfl) ?_
  refine lv_aload_n hx hb d_M_loudness_1 rfl (lv_at hl 0 rfl) ?_
  refine va_get (D := (dC, dI)) (ci := 3) (v := .ref mA) (C := "RoomEchoesModel") (T := FT_M) (N := 12) hx hb hts (hi_ in_M) hown hK hP 0 rfl rfl 9 (by decide) (ht_ hts mw433) (fun _ h9 => h9) rfl d_M_loudness_2 ?_
  refine lv_iload_n hx hb d_M_loudness_5 rfl (lv_at hl 1 rfl) ?_
  refine va_iald hx hb hK hP 4 0 rfl rfl (vp_in_nI (by omega) (by omega)) d_M_loudness_6 ?_
  refine tp_i (as k) (by rw [nI_clamp (by omega)]) ?_
  refine lv_aload_n hx hb d_M_loudness_7 rfl (lv_at hl 0 rfl) ?_
  refine va_get (D := (dC, dI)) (ci := 3) (v := .ref mB) (C := "RoomEchoesModel") (T := FT_M) (N := 12) hx hb hts (hi_ in_M) hown hK hP 0 rfl rfl 10 (by decide) (ht_ hts mw434) (fun _ h9 => h9) rfl d_M_loudness_8 ?_
  refine lv_iload_n hx hb d_M_loudness_11 rfl (lv_at hl 1 rfl) ?_
  refine va_iald hx hb hK hP 5 0 rfl rfl (vp_in_nI (by omega) (by omega)) d_M_loudness_12 ?_
  refine tp_i (bs k) (by rw [nI_clamp (by omega)]) ?_
  refine lv_aload_n hx hb d_M_loudness_13 rfl (lv_at hl 0 rfl) ?_
  refine va_get (D := (dC, dI)) (ci := 3) (v := .ref mG) (C := "RoomEchoesModel") (T := FT_M) (N := 12) hx hb hts (hi_ in_M) hown hK hP 0 rfl rfl 11 (by decide) (ht_ hts mw435) (fun _ h9 => h9) rfl d_M_loudness_14 ?_
  refine lv_iload_n hx hb d_M_loudness_17 rfl (lv_at hl 1 rfl) ?_
  refine va_iald hx hb hK hP 6 0 rfl rfl (vp_in_nI (by omega) (by omega)) d_M_loudness_18 ?_
  refine tp_i (cs k) (by rw [nI_clamp (by omega)]) ?_
  refine lv_iconst (v := 2) hx hb d_M_loudness_19 (by decide) ?_
  have hPc := hP.sub (ws' := [(aM, .inr (3, [.int th0, .ref mS, .ref mC, .ref mL, .ref mK, .int kn, .ref mQ, .ref mT, .ref mD, .ref mA, .ref mB, .ref mG])), (mS, .inl (cI, 3, .inl zs)), (mC, .inl (cI, 3, .inl sc)), (mL, .inl (cI, 3, .inl li)), (mK, .inl (cI, 6, .inl kp))]) [0, 1, 2, 3, 7] rfl
  refine rd_c (va_runV (As := [.int (as k), .int (bs k), .int (cs k), .int 2]) (rest := []) ⟨hx, hb, hml, hown, hts⟩ (c_M_told l dC dI cI cL aM th0 kn mS mC mL mK mQ mT mD mA mB mG zs sc li kp (as k) (bs k) (cs k) 2 hne) (cwV 4 hts (gi_V mw499 mw496 mw498 mw15 mw33) rfl rfl rfl (by decide +kernel) ⟨Nat.le_of_ble_eq_true rfl, Nat.le_of_ble_eq_true rfl⟩) (rd_V hM hPc rfl rfl rfl) rfl rfl hl.1 rfl (lv_room (Nat.le_of_ble_eq_true rfl)) d_M_loudness_20 ⟨Nat.le_of_ble_eq_true rfl, Nat.le_of_ble_eq_true rfl⟩) ?_
  exact W.lret (v := j_M_told zs sc li kp (as k) (bs k) (cs k) 2) hx hb hr (fun t ht hW => ⟨congrArg (fun z => Outcome.returned (some (Value.long z))) rfl, ht⟩) (fun q h => by cases h) d_M_loudness_23

set_option maxHeartbeats 4000000 in
set_option maxRecDepth 100000 in
theorem c_M_first1 (l : Launch) (dC : Nat → ClassId) (dI : Nat → Nat → Nat) (cI cL : ClassId) (aM : Nat) (th0 : Int32) (mS : Nat) (mC : Nat) (mL : Nat) (mK : Nat) (mQ : Nat) (mT : Nat) (mD : Nat) (mA : Nat) (mB : Nat) (mG : Nat) (zs : Nat → Int32) (sc : Nat → Int32) (li : Nat → Int32) (sq : Nat → Int64) (so : Nat → Int64) (ds : Nat → Int64) (as : Nat → Int32) (bs : Nat → Int32) (cs : Nat → Int32) (kp : Nat → Int32) (n : Nat) (hax : ax3k zs sc li) (hR : MRz zs sc li ds as bs cs) (hn5 : n ≤ 500) : Met l y_M_first w_M_first ({ frames := 4, cells := 0, slots := 0, locals := 97 }) (rd_P (dC, dI) cI cL [(aM, .inr (3, [.int th0, .ref mS, .ref mC, .ref mL, .ref mK, .int 1, .ref mQ, .ref mT, .ref mD, .ref mA, .ref mB, .ref mG])), (mS, .inl (cI, 3, .inl zs)), (mC, .inl (cI, 3, .inl sc)), (mL, .inl (cI, 3, .inl li)), (mQ, .inl (cL, 243, .inr (.inl sq))), (mT, .inl (cL, 243, .inr (.inl so))), (mD, .inl (cL, 500, .inr (.inl ds))), (mA, .inl (cI, 500, .inl as)), (mB, .inl (cI, 500, .inl bs)), (mG, .inl (cI, 500, .inl cs)), (mK, .inl (cI, 6, .inl kp))] [.ref aM, .int (nI n)]) (k2_QcV (.long (j_sum (mlo zs sc li kp as bs cs) 0 n))) 0 0 (fun _ => False) := by
  refine Met.ofW (cc := b_M_first) (maxL := 5) (ret := (some .long)) (by decide) rfl ?_
  intro p e s m args below meth c s₁ B hml hv
  obtain ⟨rfl, hP, hM⟩ := hv
  have hx := B.exec
  have hb := B.bytes
  have hr := B.returns
  have hts := atoms_spec (ws := w_M_first) B.pre
  have hown : s.vm.findClass "RoomEchoesModel" = some m.cls := findClass_of_methodNamed B.named
  have hlocks := B.notSynchronized
  have hK := hM.1
  have hl := lv_entry ([.ref aM, .int (nI n)]) (n := 5) (Nat.le_of_ble_eq_true rfl)
  rw [lg_entry_eq]
  generalize (lg_sl ([.ref aM, .int (nI n)]) ++ List.replicate (5 - (lg_sl ([.ref aM, .int (nI n)])).length) Slot.unset).toArray = ls at hl ⊢
  have hl : lv_has ls 5 [(0, .ref aM), (1, .int (nI n))] := hl
  refine lv_aload_n hx hb d_M_first_0 rfl (lv_at hl 0 rfl) ?_
  have hPc := hP.sub (ws' := [(aM, .inr (3, [.int th0, .ref mS, .ref mC, .ref mL, .ref mK, .int 1, .ref mQ, .ref mT, .ref mD, .ref mA, .ref mB, .ref mG]))]) [0] rfl
  refine rd_cv (va_runV (As := []) (rest := []) ⟨hx, hb, hml, hown, hts⟩ (c_M_make1 l dC dI cI cL aM th0 mS mC mL mK mQ mT mD mA mB mG) (cwV 0 hts (gi_V mw535 mw532 mw534 mw20 mw33) rfl rfl rfl (by decide +kernel) ⟨Nat.le_of_ble_eq_true rfl, Nat.le_of_ble_eq_true rfl⟩) (rd_V hM hPc rfl rfl rfl) rfl rfl hl.1 rfl (lv_room (Nat.le_of_ble_eq_true rfl)) d_M_first_1 ⟨Nat.le_of_ble_eq_true rfl, Nat.le_of_ble_eq_true rfl⟩) ?_
  refine lv_lconst (v := 0) hx hb d_M_first_4 (by decide) ?_
  refine lv_lstore_n (lv' := [(2, .long 0), (0, .ref aM), (1, .int (nI n))]) hx hb d_M_first_5 rfl hl (by decide) rfl (fun ls hl => ?_)
  refine lv_iconst (v := 0) hx hb d_M_first_6 (by decide) ?_
  refine lv_istore (lv' := [(4, .int 0), (2, .long 0), (0, .ref aM), (1, .int (nI n))]) hx hb d_M_first_7 hl (by decide) rfl (fun ls hl => ?_)
  have lp : ∀ (n9 : Nat) (i : Nat) (y : Int64), n < i + n9 → i ≤ n → y = j_sum (mlo zs sc li kp as bs cs) 0 i → ∀ (ls : Array Slot), lv_has ls 5 [(4, .int (nI i)), (2, .long y), (0, .ref aM), (1, .int (nI n))] → W p l e (headSpec w_M_first ({ frames := 4, cells := 0, slots := 0, locals := 97 })).room s m ([.ref aM, .int (nI n)] : List Value).toArray below meth c s.heap [] 0 0 (MQ below (k2_QcV (.long (j_sum (mlo zs sc li kp as bs cs) 0 n))) ([.ref aM, .int (nI n)] : List Value).toArray s 0 0 (fun _ => False)) (F0 m 9 ls []) := by
    intro n9
    induction n9 with
    | zero => intro i y hn hi hj ls hl; omega
    | succ n9 ih =>
      intro i y hn hi hj ls hl
      refine lv_iload hx hb d_M_first_9 (lv_at hl 0 rfl) ?_
      refine lv_iload_n hx hb d_M_first_11 rfl (lv_at hl 3 rfl) ?_
      refine lv_icmp_ge (tgt := 30) hx hb d_M_first_12 (by decide) (fun c_12 => ?_) (fun c_12 => ?_)
      · skip
        refine lv_lload_n hx hb d_M_first_30 rfl (lv_at hl 1 rfl) ?_
        exact W.lret (v := y) hx hb hr (fun t ht hW => ⟨congrArg (fun z => Outcome.returned (some (Value.long z))) (by rw [hj, show i = n by rw [nI_leI (by omega) (by omega)] at c_12; omega]), ht⟩) (fun q h => by cases h) d_M_first_31
      · skip
        have i5 : i < n := by rw [nI_leI (by omega) (by omega)] at c_12; omega
        refine lv_lload_n hx hb d_M_first_15 rfl (lv_at hl 1 rfl) ?_
        refine lv_aload_n hx hb d_M_first_16 rfl (lv_at hl 2 rfl) ?_
        refine lv_iload hx hb d_M_first_17 (lv_at hl 0 rfl) ?_
        have hPc := hP.sub (ws' := [(aM, .inr (3, [.int th0, .ref mS, .ref mC, .ref mL, .ref mK, .int 1, .ref mQ, .ref mT, .ref mD, .ref mA, .ref mB, .ref mG])), (mS, .inl (cI, 3, .inl zs)), (mC, .inl (cI, 3, .inl sc)), (mL, .inl (cI, 3, .inl li)), (mA, .inl (cI, 500, .inl as)), (mB, .inl (cI, 500, .inl bs)), (mG, .inl (cI, 500, .inl cs)), (mK, .inl (cI, 6, .inl kp))]) [0, 1, 2, 3, 7, 8, 9, 10] rfl
        refine rd_c (va_runV (As := [.int (nI i)]) (rest := [.long y]) ⟨hx, hb, hml, hown, hts⟩ (c_M_loudness l dC dI cI cL aM th0 1 mS mC mL mK mQ mT mD mA mB mG zs sc li as bs cs kp i (by omega) (mr_ne hax hR (by omega))) (cwV 1 hts (gi_V mw577 mw574 mw576 mw27 mw33) rfl rfl rfl (by decide +kernel) ⟨Nat.le_of_ble_eq_true rfl, Nat.le_of_ble_eq_true rfl⟩) (rd_V hM hPc rfl rfl rfl) rfl rfl hl.1 rfl (lv_room (Nat.le_of_ble_eq_true rfl)) d_M_first_19 ⟨Nat.le_of_ble_eq_true rfl, Nat.le_of_ble_eq_true rfl⟩) ?_
        refine lv_ladd hx hb d_M_first_22 ?_
        refine lv_lstore_n (lv' := [(2, .long (y + (mlo zs sc li kp as bs cs i))), (4, .int (nI i)), (0, .ref aM), (1, .int (nI n))]) hx hb d_M_first_23 rfl hl (by decide) rfl (fun ls hl => ?_)
        refine lv_iinc (v := nI (i + 1)) (lv' := [(4, .int (nI (i + 1))), (2, .long (y + (mlo zs sc li kp as bs cs i))), (0, .ref aM), (1, .int (nI n))]) hx hb d_M_first_24 hl (k := 1) rfl (nI_succ _).symm (by decide) rfl (fun ls hl => ?_)
        refine lv_goto (tgt := 9) hx hb d_M_first_27 (by decide) ?_
        exact ih (i + 1) _ (by omega) (by omega) (by rw [hj, js_s, Nat.zero_add]) ls (lv_sub hl [0, 1, 2, 3] rfl)
  exact lp (n + 1) 0 0 (by omega) (by omega) rfl ls (lv_sub hl [0, 1, 2, 3] rfl)

set_option maxHeartbeats 4000000 in
set_option maxRecDepth 100000 in
theorem c_M_first (l : Launch) (dC : Nat → ClassId) (dI : Nat → Nat → Nat) (cI cL : ClassId) (aM : Nat) (th0 : Int32) (kn : Int32) (mS : Nat) (mC : Nat) (mL : Nat) (mK : Nat) (mQ : Nat) (mT : Nat) (mD : Nat) (mA : Nat) (mB : Nat) (mG : Nat) (zs : Nat → Int32) (sc : Nat → Int32) (li : Nat → Int32) (sq : Nat → Int64) (so : Nat → Int64) (ds : Nat → Int64) (as : Nat → Int32) (bs : Nat → Int32) (cs : Nat → Int32) (kp : Nat → Int32) (n : Nat) (sz : Nat) (hax : ax3k zs sc li) (hR : kn = 0 ∨ (kn = 1 ∧ MRz zs sc li ds as bs cs)) (hn5 : n ≤ 500) : Met l y_M_first w_M_first ({ frames := 4, cells := 0, slots := 0, locals := 97 }) (wr_P (dC, dI) cI cL [(aM, .inr (3, [.int th0, .ref mS, .ref mC, .ref mL, .ref mK, .int kn, .ref mQ, .ref mT, .ref mD, .ref mA, .ref mB, .ref mG])), (mS, .inl (cI, 3, .inl zs)), (mC, .inl (cI, 3, .inl sc)), (mL, .inl (cI, 3, .inl li)), (mQ, .inl (cL, 243, .inr (.inl sq))), (mT, .inl (cL, 243, .inr (.inl so))), (mD, .inl (cL, 500, .inr (.inl ds))), (mA, .inl (cI, 500, .inl as)), (mB, .inl (cI, 500, .inl bs)), (mG, .inl (cI, 500, .inl cs)), (mK, .inl (cI, 6, .inl kp))] sz [.ref aM, .int (nI n)]) (va_Ql (fun (r9 : Int64) (u : (Nat → Int64) × (Nat → Int64) × (Nat → Int64) × (Nat → Int32) × (Nat → Int32) × (Nat → Int32)) => MRz zs sc li u.2.2.1 u.2.2.2.1 u.2.2.2.2.1 u.2.2.2.2.2 ∧ r9 = j_sum (mlo zs sc li kp u.2.2.2.1 u.2.2.2.2.1 u.2.2.2.2.2) 0 n) (fun u t => va_P (dC, dI) vwCl [(aM, .inr (3, [.int th0, .ref mS, .ref mC, .ref mL, .ref mK, .int 1, .ref mQ, .ref mT, .ref mD, .ref mA, .ref mB, .ref mG])), (mS, .inl (cI, 3, .inl zs)), (mC, .inl (cI, 3, .inl sc)), (mL, .inl (cI, 3, .inl li)), (mQ, .inl (cL, 243, .inr (.inl u.1))), (mT, .inl (cL, 243, .inr (.inl u.2.1))), (mD, .inl (cL, 500, .inr (.inl u.2.2.1))), (mA, .inl (cI, 500, .inl u.2.2.2.1)), (mB, .inl (cI, 500, .inl u.2.2.2.2.1)), (mG, .inl (cI, 500, .inl u.2.2.2.2.2)), (mK, .inl (cI, 6, .inl kp))] t.heap ∧ va_D (va_A [(aM, .inr (3, [.int th0, .ref mS, .ref mC, .ref mL, .ref mK, .int kn, .ref mQ, .ref mT, .ref mD, .ref mA, .ref mB, .ref mG])), (mS, .inl (cI, 3, .inl zs)), (mC, .inl (cI, 3, .inl sc)), (mL, .inl (cI, 3, .inl li)), (mQ, .inl (cL, 243, .inr (.inl sq))), (mT, .inl (cL, 243, .inr (.inl so))), (mD, .inl (cL, 500, .inr (.inl ds))), (mA, .inl (cI, 500, .inl as)), (mB, .inl (cI, 500, .inl bs)), (mG, .inl (cI, 500, .inl cs)), (mK, .inl (cI, 6, .inl kp))] sz) [(aM, .inr (3, [.int th0, .ref mS, .ref mC, .ref mL, .ref mK, .int 1, .ref mQ, .ref mT, .ref mD, .ref mA, .ref mB, .ref mG])), (mS, .inl (cI, 3, .inl zs)), (mC, .inl (cI, 3, .inl sc)), (mL, .inl (cI, 3, .inl li)), (mQ, .inl (cL, 243, .inr (.inl u.1))), (mT, .inl (cL, 243, .inr (.inl u.2.1))), (mD, .inl (cL, 500, .inr (.inl u.2.2.1))), (mA, .inl (cI, 500, .inl u.2.2.2.1)), (mB, .inl (cI, 500, .inl u.2.2.2.2.1)), (mG, .inl (cI, 500, .inl u.2.2.2.2.2)), (mK, .inl (cI, 6, .inl kp))]) (va_A [(aM, .inr (3, [.int th0, .ref mS, .ref mC, .ref mL, .ref mK, .int kn, .ref mQ, .ref mT, .ref mD, .ref mA, .ref mB, .ref mG])), (mS, .inl (cI, 3, .inl zs)), (mC, .inl (cI, 3, .inl sc)), (mL, .inl (cI, 3, .inl li)), (mQ, .inl (cL, 243, .inr (.inl sq))), (mT, .inl (cL, 243, .inr (.inl so))), (mD, .inl (cL, 500, .inr (.inl ds))), (mA, .inl (cI, 500, .inl as)), (mB, .inl (cI, 500, .inl bs)), (mG, .inl (cI, 500, .inl cs)), (mK, .inl (cI, 6, .inl kp))] sz)) 0 0 (va_A [(aM, .inr (3, [.int th0, .ref mS, .ref mC, .ref mL, .ref mK, .int kn, .ref mQ, .ref mT, .ref mD, .ref mA, .ref mB, .ref mG])), (mS, .inl (cI, 3, .inl zs)), (mC, .inl (cI, 3, .inl sc)), (mL, .inl (cI, 3, .inl li)), (mQ, .inl (cL, 243, .inr (.inl sq))), (mT, .inl (cL, 243, .inr (.inl so))), (mD, .inl (cL, 500, .inr (.inl ds))), (mA, .inl (cI, 500, .inl as)), (mB, .inl (cI, 500, .inl bs)), (mG, .inl (cI, 500, .inl cs)), (mK, .inl (cI, 6, .inl kp))] sz) := by
  refine Met.ofW (cc := b_M_first) (maxL := 5) (ret := (some .long)) (by decide) rfl ?_
  intro p e s m args below meth c s₁ B hml hv
  obtain ⟨rfl, hsz, hP, hM, hD0⟩ := hv
  have hx := B.exec
  have hb := B.bytes
  have hr := B.returns
  have hts := atoms_spec (ws := w_M_first) B.pre
  have hown : s.vm.findClass "RoomEchoesModel" = some m.cls := findClass_of_methodNamed B.named
  have hlocks := B.notSynchronized
  have hK := hM.1
  subst hsz
  have hD := hD0.self (sz := s.heap.size)
  generalize hAe : va_A [(aM, .inr (3, [.int th0, .ref mS, .ref mC, .ref mL, .ref mK, .int kn, .ref mQ, .ref mT, .ref mD, .ref mA, .ref mB, .ref mG])), (mS, .inl (cI, 3, .inl zs)), (mC, .inl (cI, 3, .inl sc)), (mL, .inl (cI, 3, .inl li)), (mQ, .inl (cL, 243, .inr (.inl sq))), (mT, .inl (cL, 243, .inr (.inl so))), (mD, .inl (cL, 500, .inr (.inl ds))), (mA, .inl (cI, 500, .inl as)), (mB, .inl (cI, 500, .inl bs)), (mG, .inl (cI, 500, .inl cs)), (mK, .inl (cI, 6, .inl kp))] s.heap.size = A at hD ⊢
  have hA : ∀ q : Nat, s.heap.size ≤ q → A q := fun q h => by rw [← hAe]; exact Or.inr h
  have hS : va_S A s.heap s.heap [] := va_S.rf
  have hP : va_P (dC, dI) vwCl [(aM, .inr (3, [.int th0, .ref mS, .ref mC, .ref mL, .ref mK, .int kn, .ref mQ, .ref mT, .ref mD, .ref mA, .ref mB, .ref mG])), (mS, .inl (cI, 3, .inl zs)), (mC, .inl (cI, 3, .inl sc)), (mL, .inl (cI, 3, .inl li)), (mQ, .inl (cL, 243, .inr (.inl sq))), (mT, .inl (cL, 243, .inr (.inl so))), (mD, .inl (cL, 500, .inr (.inl ds))), (mA, .inl (cI, 500, .inl as)), (mB, .inl (cI, 500, .inl bs)), (mG, .inl (cI, 500, .inl cs)), (mK, .inl (cI, 6, .inl kp))] s.heap := hP
  have hl := lv_entry ([.ref aM, .int (nI n)]) (n := 5) (Nat.le_of_ble_eq_true rfl)
  rw [lg_entry_eq]
  generalize (lg_sl ([.ref aM, .int (nI n)]) ++ List.replicate (5 - (lg_sl ([.ref aM, .int (nI n)])).length) Slot.unset).toArray = ls at hl ⊢
  have hl : lv_has ls 5 [(0, .ref aM), (1, .int (nI n))] := hl
  refine lv_aload_n hx hb d_M_first_0 rfl (lv_at hl 0 rfl) ?_
  have hPc := hP.sub (ws' := [(aM, .inr (3, [.int th0, .ref mS, .ref mC, .ref mL, .ref mK, .int kn, .ref mQ, .ref mT, .ref mD, .ref mA, .ref mB, .ref mG])), (mS, .inl (cI, 3, .inl zs)), (mC, .inl (cI, 3, .inl sc)), (mL, .inl (cI, 3, .inl li)), (mQ, .inl (cL, 243, .inr (.inl sq))), (mT, .inl (cL, 243, .inr (.inl so))), (mD, .inl (cL, 500, .inr (.inl ds))), (mA, .inl (cI, 500, .inl as)), (mB, .inl (cI, 500, .inl bs)), (mG, .inl (cI, 500, .inl cs))]) [0, 1, 2, 3, 4, 5, 6, 7, 8, 9] rfl
  have hDc := hD.sub (ws' := [(aM, .inr (3, [.int th0, .ref mS, .ref mC, .ref mL, .ref mK, .int kn, .ref mQ, .ref mT, .ref mD, .ref mA, .ref mB, .ref mG])), (mS, .inl (cI, 3, .inl zs)), (mC, .inl (cI, 3, .inl sc)), (mL, .inl (cI, 3, .inl li)), (mQ, .inl (cL, 243, .inr (.inl sq))), (mT, .inl (cL, 243, .inr (.inl so))), (mD, .inl (cL, 500, .inr (.inl ds))), (mA, .inl (cI, 500, .inl as)), (mB, .inl (cI, 500, .inl bs)), (mG, .inl (cI, 500, .inl cs))]) [0, 1, 2, 3, 4, 5, 6, 7, 8, 9] (by decide) rfl
  refine wx_cv (wr := [(mK, .inl (cI, 6, .inl kp))]) (w1 := fun (u : (Nat → Int64) × (Nat → Int64) × (Nat → Int64) × (Nat → Int32) × (Nat → Int32) × (Nat → Int32)) => [(aM, .inr (3, [.int th0, .ref mS, .ref mC, .ref mL, .ref mK, .int 1, .ref mQ, .ref mT, .ref mD, .ref mA, .ref mB, .ref mG])), (mS, .inl (cI, 3, .inl zs)), (mC, .inl (cI, 3, .inl sc)), (mL, .inl (cI, 3, .inl li)), (mQ, .inl (cL, 243, .inr (.inl u.1))), (mT, .inl (cL, 243, .inr (.inl u.2.1))), (mD, .inl (cL, 500, .inr (.inl u.2.2.1))), (mA, .inl (cI, 500, .inl u.2.2.2.1)), (mB, .inl (cI, 500, .inl u.2.2.2.2.1)), (mG, .inl (cI, 500, .inl u.2.2.2.2.2))]) hP hD hS hA [0, 1, 2, 3, 4, 5, 6, 7, 8, 9] [10] rfl rfl (by decide) (by decide) (va_runV (As := []) (rest := []) ⟨hx, hb, hml, hown, hts⟩ (c_M_make l dC dI cI cL aM th0 kn mS mC mL mK mQ mT mD mA mB mG zs sc li sq so ds as bs cs _ hax hR) (cwV 0 hts (gi_V mw535 mw532 mw534 mw20 mw33) rfl rfl rfl (by decide +kernel) ⟨Nat.le_of_ble_eq_true rfl, Nat.le_of_ble_eq_true rfl⟩) (wr_V hM hPc hDc rfl rfl rfl) rfl rfl hl.1 rfl (lv_room (Nat.le_of_ble_eq_true rfl)) d_M_first_1 ⟨Nat.le_of_ble_eq_true rfl, Nat.le_of_ble_eq_true rfl⟩) (fun u H locs hu_7 hP hD hS => ?_)
  obtain ⟨sq9_1, so9_2, ds9_3, as9_4, bs9_5, cs9_6⟩ := u
  have hu_7 : MRz zs sc li ds9_3 as9_4 bs9_5 cs9_6 ∧ (kn = 1 → ds9_3 = ds ∧ as9_4 = as ∧ bs9_5 = bs ∧ cs9_6 = cs) := hu_7
  have hP := hP.sub (ws' := [(aM, .inr (3, [.int th0, .ref mS, .ref mC, .ref mL, .ref mK, .int 1, .ref mQ, .ref mT, .ref mD, .ref mA, .ref mB, .ref mG])), (mS, .inl (cI, 3, .inl zs)), (mC, .inl (cI, 3, .inl sc)), (mL, .inl (cI, 3, .inl li)), (mQ, .inl (cL, 243, .inr (.inl sq9_1))), (mT, .inl (cL, 243, .inr (.inl so9_2))), (mD, .inl (cL, 500, .inr (.inl ds9_3))), (mA, .inl (cI, 500, .inl as9_4)), (mB, .inl (cI, 500, .inl bs9_5)), (mG, .inl (cI, 500, .inl cs9_6)), (mK, .inl (cI, 6, .inl kp))]) [1, 2, 3, 4, 5, 6, 7, 8, 9, 10, 0] rfl
  have hD := hD.sub (ws' := [(aM, .inr (3, [.int th0, .ref mS, .ref mC, .ref mL, .ref mK, .int 1, .ref mQ, .ref mT, .ref mD, .ref mA, .ref mB, .ref mG])), (mS, .inl (cI, 3, .inl zs)), (mC, .inl (cI, 3, .inl sc)), (mL, .inl (cI, 3, .inl li)), (mQ, .inl (cL, 243, .inr (.inl sq9_1))), (mT, .inl (cL, 243, .inr (.inl so9_2))), (mD, .inl (cL, 500, .inr (.inl ds9_3))), (mA, .inl (cI, 500, .inl as9_4)), (mB, .inl (cI, 500, .inl bs9_5)), (mG, .inl (cI, 500, .inl cs9_6)), (mK, .inl (cI, 6, .inl kp))]) [1, 2, 3, 4, 5, 6, 7, 8, 9, 10, 0] (by decide) rfl
  refine lv_lconst (v := 0) hx hb d_M_first_4 (by decide) ?_
  refine lv_lstore_n (lv' := [(2, .long 0), (0, .ref aM), (1, .int (nI n))]) hx hb d_M_first_5 rfl hl (by decide) rfl (fun ls hl => ?_)
  refine lv_iconst (v := 0) hx hb d_M_first_6 (by decide) ?_
  refine lv_istore (lv' := [(4, .int 0), (2, .long 0), (0, .ref aM), (1, .int (nI n))]) hx hb d_M_first_7 hl (by decide) rfl (fun ls hl => ?_)
  have lp : ∀ (n9 : Nat) (i : Nat) (y : Int64), n < i + n9 → i ≤ n → y = j_sum (mlo zs sc li kp as9_4 bs9_5 cs9_6) 0 i → ∀ (H : Heap) (locs : List Loc), va_P (dC, dI) vwCl [(aM, .inr (3, [.int th0, .ref mS, .ref mC, .ref mL, .ref mK, .int 1, .ref mQ, .ref mT, .ref mD, .ref mA, .ref mB, .ref mG])), (mS, .inl (cI, 3, .inl zs)), (mC, .inl (cI, 3, .inl sc)), (mL, .inl (cI, 3, .inl li)), (mQ, .inl (cL, 243, .inr (.inl sq9_1))), (mT, .inl (cL, 243, .inr (.inl so9_2))), (mD, .inl (cL, 500, .inr (.inl ds9_3))), (mA, .inl (cI, 500, .inl as9_4)), (mB, .inl (cI, 500, .inl bs9_5)), (mG, .inl (cI, 500, .inl cs9_6)), (mK, .inl (cI, 6, .inl kp))] H → va_D A [(aM, .inr (3, [.int th0, .ref mS, .ref mC, .ref mL, .ref mK, .int 1, .ref mQ, .ref mT, .ref mD, .ref mA, .ref mB, .ref mG])), (mS, .inl (cI, 3, .inl zs)), (mC, .inl (cI, 3, .inl sc)), (mL, .inl (cI, 3, .inl li)), (mQ, .inl (cL, 243, .inr (.inl sq9_1))), (mT, .inl (cL, 243, .inr (.inl so9_2))), (mD, .inl (cL, 500, .inr (.inl ds9_3))), (mA, .inl (cI, 500, .inl as9_4)), (mB, .inl (cI, 500, .inl bs9_5)), (mG, .inl (cI, 500, .inl cs9_6)), (mK, .inl (cI, 6, .inl kp))] → va_S A s.heap H locs → ∀ (ls : Array Slot), lv_has ls 5 [(4, .int (nI i)), (2, .long y), (0, .ref aM), (1, .int (nI n))] → W p l e (headSpec w_M_first ({ frames := 4, cells := 0, slots := 0, locals := 97 })).room s m ([.ref aM, .int (nI n)] : List Value).toArray below meth c H locs 0 0 (MQ below (va_Ql (fun (r9 : Int64) (u : (Nat → Int64) × (Nat → Int64) × (Nat → Int64) × (Nat → Int32) × (Nat → Int32) × (Nat → Int32)) => MRz zs sc li u.2.2.1 u.2.2.2.1 u.2.2.2.2.1 u.2.2.2.2.2 ∧ r9 = j_sum (mlo zs sc li kp u.2.2.2.1 u.2.2.2.2.1 u.2.2.2.2.2) 0 n) (fun u t => va_P (dC, dI) vwCl [(aM, .inr (3, [.int th0, .ref mS, .ref mC, .ref mL, .ref mK, .int 1, .ref mQ, .ref mT, .ref mD, .ref mA, .ref mB, .ref mG])), (mS, .inl (cI, 3, .inl zs)), (mC, .inl (cI, 3, .inl sc)), (mL, .inl (cI, 3, .inl li)), (mQ, .inl (cL, 243, .inr (.inl u.1))), (mT, .inl (cL, 243, .inr (.inl u.2.1))), (mD, .inl (cL, 500, .inr (.inl u.2.2.1))), (mA, .inl (cI, 500, .inl u.2.2.2.1)), (mB, .inl (cI, 500, .inl u.2.2.2.2.1)), (mG, .inl (cI, 500, .inl u.2.2.2.2.2)), (mK, .inl (cI, 6, .inl kp))] t.heap ∧ va_D A [(aM, .inr (3, [.int th0, .ref mS, .ref mC, .ref mL, .ref mK, .int 1, .ref mQ, .ref mT, .ref mD, .ref mA, .ref mB, .ref mG])), (mS, .inl (cI, 3, .inl zs)), (mC, .inl (cI, 3, .inl sc)), (mL, .inl (cI, 3, .inl li)), (mQ, .inl (cL, 243, .inr (.inl u.1))), (mT, .inl (cL, 243, .inr (.inl u.2.1))), (mD, .inl (cL, 500, .inr (.inl u.2.2.1))), (mA, .inl (cI, 500, .inl u.2.2.2.1)), (mB, .inl (cI, 500, .inl u.2.2.2.2.1)), (mG, .inl (cI, 500, .inl u.2.2.2.2.2)), (mK, .inl (cI, 6, .inl kp))]) A) ([.ref aM, .int (nI n)] : List Value).toArray s 0 0 A) (F0 m 9 ls []) := by
    intro n9
    induction n9 with
    | zero => intro i y hn hi hj H locs hP hD hS ls hl; omega
    | succ n9 ih =>
      intro i y hn hi hj H locs hP hD hS ls hl
      refine lv_iload hx hb d_M_first_9 (lv_at hl 0 rfl) ?_
      refine lv_iload_n hx hb d_M_first_11 rfl (lv_at hl 3 rfl) ?_
      refine lv_icmp_ge (tgt := 30) hx hb d_M_first_12 (by decide) (fun c_12 => ?_) (fun c_12 => ?_)
      · skip
        refine lv_lload_n hx hb d_M_first_30 rfl (lv_at hl 1 rfl) ?_
        have hP9 : va_P (dC, dI) vwCl [(aM, .inr (3, [.int th0, .ref mS, .ref mC, .ref mL, .ref mK, .int 1, .ref mQ, .ref mT, .ref mD, .ref mA, .ref mB, .ref mG])), (mS, .inl (cI, 3, .inl zs)), (mC, .inl (cI, 3, .inl sc)), (mL, .inl (cI, 3, .inl li)), (mQ, .inl (cL, 243, .inr (.inl sq9_1))), (mT, .inl (cL, 243, .inr (.inl so9_2))), (mD, .inl (cL, 500, .inr (.inl ds9_3))), (mA, .inl (cI, 500, .inl as9_4)), (mB, .inl (cI, 500, .inl bs9_5)), (mG, .inl (cI, 500, .inl cs9_6)), (mK, .inl (cI, 6, .inl kp))] _ := hP
        have hD9 : va_D A [(aM, .inr (3, [.int th0, .ref mS, .ref mC, .ref mL, .ref mK, .int 1, .ref mQ, .ref mT, .ref mD, .ref mA, .ref mB, .ref mG])), (mS, .inl (cI, 3, .inl zs)), (mC, .inl (cI, 3, .inl sc)), (mL, .inl (cI, 3, .inl li)), (mQ, .inl (cL, 243, .inr (.inl sq9_1))), (mT, .inl (cL, 243, .inr (.inl so9_2))), (mD, .inl (cL, 500, .inr (.inl ds9_3))), (mA, .inl (cI, 500, .inl as9_4)), (mB, .inl (cI, 500, .inl bs9_5)), (mG, .inl (cI, 500, .inl cs9_6)), (mK, .inl (cI, 6, .inl kp))] := hD
        exact W.lret (v := y) hx hb hr (fun t ht hW => ⟨⟨_, (sq9_1, so9_2, ds9_3, as9_4, bs9_5, cs9_6), rfl, ⟨hu_7.1, by rw [hj, show i = n by rw [nI_leI (by omega) (by omega)] at c_12; omega]⟩, by rw [ht]; exact hP9, hD9⟩, hS.F ht⟩) hS.2.2 d_M_first_31
      · skip
        have i5 : i < n := by rw [nI_leI (by omega) (by omega)] at c_12; omega
        refine lv_lload_n hx hb d_M_first_15 rfl (lv_at hl 1 rfl) ?_
        refine lv_aload_n hx hb d_M_first_16 rfl (lv_at hl 2 rfl) ?_
        refine lv_iload hx hb d_M_first_17 (lv_at hl 0 rfl) ?_
        have hPc := hP.sub (ws' := [(aM, .inr (3, [.int th0, .ref mS, .ref mC, .ref mL, .ref mK, .int 1, .ref mQ, .ref mT, .ref mD, .ref mA, .ref mB, .ref mG])), (mS, .inl (cI, 3, .inl zs)), (mC, .inl (cI, 3, .inl sc)), (mL, .inl (cI, 3, .inl li)), (mA, .inl (cI, 500, .inl as9_4)), (mB, .inl (cI, 500, .inl bs9_5)), (mG, .inl (cI, 500, .inl cs9_6)), (mK, .inl (cI, 6, .inl kp))]) [0, 1, 2, 3, 7, 8, 9, 10] rfl
        refine rd_c (va_runV (As := [.int (nI i)]) (rest := [.long y]) ⟨hx, hb, hml, hown, hts⟩ (c_M_loudness l dC dI cI cL aM th0 1 mS mC mL mK mQ mT mD mA mB mG zs sc li as9_4 bs9_5 cs9_6 kp i (by omega) (mr_ne hax hu_7.1 (by omega))) (cwV 1 hts (gi_V mw577 mw574 mw576 mw27 mw33) rfl rfl rfl (by decide +kernel) ⟨Nat.le_of_ble_eq_true rfl, Nat.le_of_ble_eq_true rfl⟩) (rd_V hM hPc rfl rfl rfl) rfl rfl hl.1 rfl (lv_room (Nat.le_of_ble_eq_true rfl)) d_M_first_19 ⟨Nat.le_of_ble_eq_true rfl, Nat.le_of_ble_eq_true rfl⟩) ?_
        refine lv_ladd hx hb d_M_first_22 ?_
        refine lv_lstore_n (lv' := [(2, .long (y + (mlo zs sc li kp as9_4 bs9_5 cs9_6 i))), (4, .int (nI i)), (0, .ref aM), (1, .int (nI n))]) hx hb d_M_first_23 rfl hl (by decide) rfl (fun ls hl => ?_)
        refine lv_iinc (v := nI (i + 1)) (lv' := [(4, .int (nI (i + 1))), (2, .long (y + (mlo zs sc li kp as9_4 bs9_5 cs9_6 i))), (0, .ref aM), (1, .int (nI n))]) hx hb d_M_first_24 hl (k := 1) rfl (nI_succ _).symm (by decide) rfl (fun ls hl => ?_)
        refine lv_goto (tgt := 9) hx hb d_M_first_27 (by decide) ?_
        exact ih (i + 1) _ (by omega) (by omega) (by rw [hj, js_s, Nat.zero_add]) _ _ hP hD hS ls (lv_sub hl [0, 1, 2, 3] rfl)
  exact lp (n + 1) 0 0 (by omega) (by omega) rfl _ _ hP hD hS ls (lv_sub hl [0, 1, 2, 3] rfl)

set_option maxHeartbeats 4000000 in
set_option maxRecDepth 100000 in
theorem c_M_countUntil1 (l : Launch) (dC : Nat → ClassId) (dI : Nat → Nat → Nat) (cI cL : ClassId) (aM : Nat) (th0 : Int32) (mS : Nat) (mC : Nat) (mL : Nat) (mK : Nat) (mQ : Nat) (mT : Nat) (mD : Nat) (mA : Nat) (mB : Nat) (mG : Nat) (ds : Nat → Int64) (d : Int64) : Met l y_M_countUntil w_M_countUntil ({ frames := 1, cells := 0, slots := 0, locals := 26 }) (rd_P (dC, dI) cI cL [(aM, .inr (3, [.int th0, .ref mS, .ref mC, .ref mL, .ref mK, .int 1, .ref mQ, .ref mT, .ref mD, .ref mA, .ref mB, .ref mG])), (mD, .inl (cL, 500, .inr (.inl ds)))] [.ref aM, .long d]) (k2_QcV (.int (nI (j_cu ds d 500 0)))) 0 0 (fun _ => False) := by
  refine Met.ofW (cc := b_M_countUntil) (maxL := 4) (ret := (some .int)) (by decide) rfl ?_
  intro p e s m args below meth c s₁ B hml hv
  obtain ⟨rfl, hP, hM⟩ := hv
  have hx := B.exec
  have hb := B.bytes
  have hr := B.returns
  have hts := atoms_spec (ws := w_M_countUntil) B.pre
  have hown : s.vm.findClass "RoomEchoesModel" = some m.cls := findClass_of_methodNamed B.named
  have hlocks := B.notSynchronized
  have hK := hM.1
  have hl := lv_entry ([.ref aM, .long d]) (n := 4) (Nat.le_of_ble_eq_true rfl)
  rw [lg_entry_eq]
  generalize (lg_sl ([.ref aM, .long d]) ++ List.replicate (4 - (lg_sl ([.ref aM, .long d])).length) Slot.unset).toArray = ls at hl ⊢
  have hl : lv_has ls 4 [(0, .ref aM), (1, .long d)] := hl
  refine lv_aload_n hx hb d_M_countUntil_0 rfl (lv_at hl 0 rfl) ?_
  have hPc := hP.sub (ws' := [(aM, .inr (3, [.int th0, .ref mS, .ref mC, .ref mL, .ref mK, .int 1, .ref mQ, .ref mT, .ref mD, .ref mA, .ref mB, .ref mG]))]) [0] rfl
  refine rd_cv (va_runV (As := []) (rest := []) ⟨hx, hb, hml, hown, hts⟩ (c_M_make1 l dC dI cI cL aM th0 mS mC mL mK mQ mT mD mA mB mG) (cwV 0 hts (gi_V mw535 mw532 mw534 mw20 mw33) rfl rfl rfl (by decide +kernel) ⟨Nat.le_of_ble_eq_true rfl, Nat.le_of_ble_eq_true rfl⟩) (rd_V hM hPc rfl rfl rfl) rfl rfl hl.1 rfl (lv_room (Nat.le_of_ble_eq_true rfl)) d_M_countUntil_1 ⟨Nat.le_of_ble_eq_true rfl, Nat.le_of_ble_eq_true rfl⟩) ?_
  refine lv_iconst (v := 0) hx hb d_M_countUntil_4 (by decide) ?_
  refine lv_istore_n (lv' := [(3, .int 0), (0, .ref aM), (1, .long d)]) hx hb d_M_countUntil_5 rfl hl (by decide) rfl (fun ls hl => ?_)
  have lp : ∀ (n9 : Nat) (i : Nat), 500 < i + n9 → i ≤ 500 → j_cu ds d (500 - i) i = j_cu ds d 500 0 → ∀ (ls : Array Slot), lv_has ls 4 [(3, .int (nI i)), (0, .ref aM), (1, .long d)] → W p l e (headSpec w_M_countUntil ({ frames := 1, cells := 0, slots := 0, locals := 26 })).room s m ([.ref aM, .long d] : List Value).toArray below meth c s.heap [] 0 0 (MQ below (k2_QcV (.int (nI (j_cu ds d 500 0)))) ([.ref aM, .long d] : List Value).toArray s 0 0 (fun _ => False)) (F0 m 6 ls []) := by
    intro n9
    induction n9 with
    | zero => intro i hn hi hj ls hl; omega
    | succ n9 ih =>
      intro i hn hi hj ls hl
      refine lv_iload_n hx hb d_M_countUntil_6 rfl (lv_at hl 0 rfl) ?_
      refine lv_sipush (v := 500) hx hb d_M_countUntil_7 (by decide) ?_
      refine lv_icmp_ge (tgt := 30) hx hb d_M_countUntil_10 (by decide) (fun c_10 => ?_) (fun c_10 => ?_)
      · skip
        refine lv_iload_n hx hb d_M_countUntil_30 rfl (lv_at hl 0 rfl) ?_
        exact W.iret (v := nI i) hx hb hr (fun t ht hW => ⟨congrArg (fun z => Outcome.returned (some (Value.int z))) (by rw [← hj, show 500 - i = 0 by have : 500 ≤ i := nu_end (x := 500) (by omega) c_10; omega]; rfl), ht⟩) (fun q h => by cases h) d_M_countUntil_31
      · skip
        have i5 : i < 500 := nu_on (x := 500) (by omega) c_10
        refine lv_aload_n hx hb d_M_countUntil_13 rfl (lv_at hl 1 rfl) ?_
        refine va_get (D := (dC, dI)) (ci := 3) (v := .ref mD) (C := "RoomEchoesModel") (T := FT_M) (N := 12) hx hb hts (hi_ in_M) hown hK hP 0 rfl rfl 8 (by decide) (ht_ hts mw432) (fun _ h9 => h9) rfl d_M_countUntil_14 ?_
        refine lv_iload_n hx hb d_M_countUntil_17 rfl (lv_at hl 0 rfl) ?_
        refine va_lald hx hb hK hP 1 1 rfl rfl (vp_in_nI (by omega) (by omega)) d_M_countUntil_18 ?_
        refine tp_l (ds i) (by rw [nI_clamp (by omega)]) ?_
        refine lv_lload_n hx hb d_M_countUntil_19 rfl (lv_at hl 2 rfl) ?_
        refine W.lcmp hx hb d_M_countUntil_20 ?_
        refine lv_if_gt (tgt := 30) hx hb d_M_countUntil_21 (by decide) (fun c_21 => ?_) (fun c_21 => ?_)
        · rw [lg_cmp_gt] at c_21
          refine lv_iload_n hx hb d_M_countUntil_30 rfl (lv_at hl 0 rfl) ?_
          exact W.iret (v := nI i) hx hb hr (fun t ht hW => ⟨congrArg (fun z => Outcome.returned (some (Value.int z))) (by rw [← hj, show 500 - i = 500 - (i + 1) + 1 by omega]; exact congrArg nI (if_pos c_21).symm), ht⟩) (fun q h => by cases h) d_M_countUntil_31
        · rw [lg_cmp_gt] at c_21
          refine lv_iinc (v := nI (i + 1)) (lv' := [(3, .int (nI (i + 1))), (0, .ref aM), (1, .long d)]) hx hb d_M_countUntil_24 hl (k := 0) rfl (nI_succ _).symm (by decide) rfl (fun ls hl => ?_)
          refine lv_goto (tgt := 6) hx hb d_M_countUntil_27 (by decide) ?_
          exact ih (i + 1) (by omega) (by omega) (by rw [← hj, show 500 - i = 500 - (i + 1) + 1 by omega]; exact (if_neg c_21).symm) ls (lv_sub hl [0, 1, 2] rfl)
  exact lp 501 0 (by omega) (by omega) rfl ls (lv_sub hl [0, 1, 2] rfl)

set_option maxHeartbeats 4000000 in
set_option maxRecDepth 100000 in
theorem c_M_countUntil (l : Launch) (dC : Nat → ClassId) (dI : Nat → Nat → Nat) (cI cL : ClassId) (aM : Nat) (th0 : Int32) (kn : Int32) (mS : Nat) (mC : Nat) (mL : Nat) (mK : Nat) (mQ : Nat) (mT : Nat) (mD : Nat) (mA : Nat) (mB : Nat) (mG : Nat) (zs : Nat → Int32) (sc : Nat → Int32) (li : Nat → Int32) (sq : Nat → Int64) (so : Nat → Int64) (ds : Nat → Int64) (as : Nat → Int32) (bs : Nat → Int32) (cs : Nat → Int32) (d : Int64) (sz : Nat) (hax : ax3k zs sc li) (hR : kn = 0 ∨ (kn = 1 ∧ MRz zs sc li ds as bs cs)) : Met l y_M_countUntil w_M_countUntil ({ frames := 3, cells := 0, slots := 0, locals := 86 }) (wr_P (dC, dI) cI cL [(aM, .inr (3, [.int th0, .ref mS, .ref mC, .ref mL, .ref mK, .int kn, .ref mQ, .ref mT, .ref mD, .ref mA, .ref mB, .ref mG])), (mS, .inl (cI, 3, .inl zs)), (mC, .inl (cI, 3, .inl sc)), (mL, .inl (cI, 3, .inl li)), (mQ, .inl (cL, 243, .inr (.inl sq))), (mT, .inl (cL, 243, .inr (.inl so))), (mD, .inl (cL, 500, .inr (.inl ds))), (mA, .inl (cI, 500, .inl as)), (mB, .inl (cI, 500, .inl bs)), (mG, .inl (cI, 500, .inl cs))] sz [.ref aM, .long d]) (va_Qi (fun (r9 : Int32) (u : (Nat → Int64) × (Nat → Int64) × (Nat → Int64) × (Nat → Int32) × (Nat → Int32) × (Nat → Int32)) => MRz zs sc li u.2.2.1 u.2.2.2.1 u.2.2.2.2.1 u.2.2.2.2.2 ∧ r9 = nI (j_cu u.2.2.1 d 500 0)) (fun u t => va_P (dC, dI) vwCl [(aM, .inr (3, [.int th0, .ref mS, .ref mC, .ref mL, .ref mK, .int 1, .ref mQ, .ref mT, .ref mD, .ref mA, .ref mB, .ref mG])), (mS, .inl (cI, 3, .inl zs)), (mC, .inl (cI, 3, .inl sc)), (mL, .inl (cI, 3, .inl li)), (mQ, .inl (cL, 243, .inr (.inl u.1))), (mT, .inl (cL, 243, .inr (.inl u.2.1))), (mD, .inl (cL, 500, .inr (.inl u.2.2.1))), (mA, .inl (cI, 500, .inl u.2.2.2.1)), (mB, .inl (cI, 500, .inl u.2.2.2.2.1)), (mG, .inl (cI, 500, .inl u.2.2.2.2.2))] t.heap ∧ va_D (va_A [(aM, .inr (3, [.int th0, .ref mS, .ref mC, .ref mL, .ref mK, .int kn, .ref mQ, .ref mT, .ref mD, .ref mA, .ref mB, .ref mG])), (mS, .inl (cI, 3, .inl zs)), (mC, .inl (cI, 3, .inl sc)), (mL, .inl (cI, 3, .inl li)), (mQ, .inl (cL, 243, .inr (.inl sq))), (mT, .inl (cL, 243, .inr (.inl so))), (mD, .inl (cL, 500, .inr (.inl ds))), (mA, .inl (cI, 500, .inl as)), (mB, .inl (cI, 500, .inl bs)), (mG, .inl (cI, 500, .inl cs))] sz) [(aM, .inr (3, [.int th0, .ref mS, .ref mC, .ref mL, .ref mK, .int 1, .ref mQ, .ref mT, .ref mD, .ref mA, .ref mB, .ref mG])), (mS, .inl (cI, 3, .inl zs)), (mC, .inl (cI, 3, .inl sc)), (mL, .inl (cI, 3, .inl li)), (mQ, .inl (cL, 243, .inr (.inl u.1))), (mT, .inl (cL, 243, .inr (.inl u.2.1))), (mD, .inl (cL, 500, .inr (.inl u.2.2.1))), (mA, .inl (cI, 500, .inl u.2.2.2.1)), (mB, .inl (cI, 500, .inl u.2.2.2.2.1)), (mG, .inl (cI, 500, .inl u.2.2.2.2.2))]) (va_A [(aM, .inr (3, [.int th0, .ref mS, .ref mC, .ref mL, .ref mK, .int kn, .ref mQ, .ref mT, .ref mD, .ref mA, .ref mB, .ref mG])), (mS, .inl (cI, 3, .inl zs)), (mC, .inl (cI, 3, .inl sc)), (mL, .inl (cI, 3, .inl li)), (mQ, .inl (cL, 243, .inr (.inl sq))), (mT, .inl (cL, 243, .inr (.inl so))), (mD, .inl (cL, 500, .inr (.inl ds))), (mA, .inl (cI, 500, .inl as)), (mB, .inl (cI, 500, .inl bs)), (mG, .inl (cI, 500, .inl cs))] sz)) 0 0 (va_A [(aM, .inr (3, [.int th0, .ref mS, .ref mC, .ref mL, .ref mK, .int kn, .ref mQ, .ref mT, .ref mD, .ref mA, .ref mB, .ref mG])), (mS, .inl (cI, 3, .inl zs)), (mC, .inl (cI, 3, .inl sc)), (mL, .inl (cI, 3, .inl li)), (mQ, .inl (cL, 243, .inr (.inl sq))), (mT, .inl (cL, 243, .inr (.inl so))), (mD, .inl (cL, 500, .inr (.inl ds))), (mA, .inl (cI, 500, .inl as)), (mB, .inl (cI, 500, .inl bs)), (mG, .inl (cI, 500, .inl cs))] sz) := by
  refine Met.ofW (cc := b_M_countUntil) (maxL := 4) (ret := (some .int)) (by decide) rfl ?_
  intro p e s m args below meth c s₁ B hml hv
  obtain ⟨rfl, hsz, hP, hM, hD0⟩ := hv
  have hx := B.exec
  have hb := B.bytes
  have hr := B.returns
  have hts := atoms_spec (ws := w_M_countUntil) B.pre
  have hown : s.vm.findClass "RoomEchoesModel" = some m.cls := findClass_of_methodNamed B.named
  have hlocks := B.notSynchronized
  have hK := hM.1
  subst hsz
  have hD := hD0.self (sz := s.heap.size)
  generalize hAe : va_A [(aM, .inr (3, [.int th0, .ref mS, .ref mC, .ref mL, .ref mK, .int kn, .ref mQ, .ref mT, .ref mD, .ref mA, .ref mB, .ref mG])), (mS, .inl (cI, 3, .inl zs)), (mC, .inl (cI, 3, .inl sc)), (mL, .inl (cI, 3, .inl li)), (mQ, .inl (cL, 243, .inr (.inl sq))), (mT, .inl (cL, 243, .inr (.inl so))), (mD, .inl (cL, 500, .inr (.inl ds))), (mA, .inl (cI, 500, .inl as)), (mB, .inl (cI, 500, .inl bs)), (mG, .inl (cI, 500, .inl cs))] s.heap.size = A at hD ⊢
  have hA : ∀ q : Nat, s.heap.size ≤ q → A q := fun q h => by rw [← hAe]; exact Or.inr h
  have hS : va_S A s.heap s.heap [] := va_S.rf
  have hP : va_P (dC, dI) vwCl [(aM, .inr (3, [.int th0, .ref mS, .ref mC, .ref mL, .ref mK, .int kn, .ref mQ, .ref mT, .ref mD, .ref mA, .ref mB, .ref mG])), (mS, .inl (cI, 3, .inl zs)), (mC, .inl (cI, 3, .inl sc)), (mL, .inl (cI, 3, .inl li)), (mQ, .inl (cL, 243, .inr (.inl sq))), (mT, .inl (cL, 243, .inr (.inl so))), (mD, .inl (cL, 500, .inr (.inl ds))), (mA, .inl (cI, 500, .inl as)), (mB, .inl (cI, 500, .inl bs)), (mG, .inl (cI, 500, .inl cs))] s.heap := hP
  have hl := lv_entry ([.ref aM, .long d]) (n := 4) (Nat.le_of_ble_eq_true rfl)
  rw [lg_entry_eq]
  generalize (lg_sl ([.ref aM, .long d]) ++ List.replicate (4 - (lg_sl ([.ref aM, .long d])).length) Slot.unset).toArray = ls at hl ⊢
  have hl : lv_has ls 4 [(0, .ref aM), (1, .long d)] := hl
  refine lv_aload_n hx hb d_M_countUntil_0 rfl (lv_at hl 0 rfl) ?_
  have hPc := hP.sub (ws' := [(aM, .inr (3, [.int th0, .ref mS, .ref mC, .ref mL, .ref mK, .int kn, .ref mQ, .ref mT, .ref mD, .ref mA, .ref mB, .ref mG])), (mS, .inl (cI, 3, .inl zs)), (mC, .inl (cI, 3, .inl sc)), (mL, .inl (cI, 3, .inl li)), (mQ, .inl (cL, 243, .inr (.inl sq))), (mT, .inl (cL, 243, .inr (.inl so))), (mD, .inl (cL, 500, .inr (.inl ds))), (mA, .inl (cI, 500, .inl as)), (mB, .inl (cI, 500, .inl bs)), (mG, .inl (cI, 500, .inl cs))]) [0, 1, 2, 3, 4, 5, 6, 7, 8, 9] rfl
  have hDc := hD.sub (ws' := [(aM, .inr (3, [.int th0, .ref mS, .ref mC, .ref mL, .ref mK, .int kn, .ref mQ, .ref mT, .ref mD, .ref mA, .ref mB, .ref mG])), (mS, .inl (cI, 3, .inl zs)), (mC, .inl (cI, 3, .inl sc)), (mL, .inl (cI, 3, .inl li)), (mQ, .inl (cL, 243, .inr (.inl sq))), (mT, .inl (cL, 243, .inr (.inl so))), (mD, .inl (cL, 500, .inr (.inl ds))), (mA, .inl (cI, 500, .inl as)), (mB, .inl (cI, 500, .inl bs)), (mG, .inl (cI, 500, .inl cs))]) [0, 1, 2, 3, 4, 5, 6, 7, 8, 9] (by decide) rfl
  refine wx_cv (wr := []) (w1 := fun (u : (Nat → Int64) × (Nat → Int64) × (Nat → Int64) × (Nat → Int32) × (Nat → Int32) × (Nat → Int32)) => [(aM, .inr (3, [.int th0, .ref mS, .ref mC, .ref mL, .ref mK, .int 1, .ref mQ, .ref mT, .ref mD, .ref mA, .ref mB, .ref mG])), (mS, .inl (cI, 3, .inl zs)), (mC, .inl (cI, 3, .inl sc)), (mL, .inl (cI, 3, .inl li)), (mQ, .inl (cL, 243, .inr (.inl u.1))), (mT, .inl (cL, 243, .inr (.inl u.2.1))), (mD, .inl (cL, 500, .inr (.inl u.2.2.1))), (mA, .inl (cI, 500, .inl u.2.2.2.1)), (mB, .inl (cI, 500, .inl u.2.2.2.2.1)), (mG, .inl (cI, 500, .inl u.2.2.2.2.2))]) hP hD hS hA [0, 1, 2, 3, 4, 5, 6, 7, 8, 9] [] rfl rfl (by decide) (by decide) (va_runV (As := []) (rest := []) ⟨hx, hb, hml, hown, hts⟩ (c_M_make l dC dI cI cL aM th0 kn mS mC mL mK mQ mT mD mA mB mG zs sc li sq so ds as bs cs _ hax hR) (cwV 0 hts (gi_V mw535 mw532 mw534 mw20 mw33) rfl rfl rfl (by decide +kernel) ⟨Nat.le_of_ble_eq_true rfl, Nat.le_of_ble_eq_true rfl⟩) (wr_V hM hPc hDc rfl rfl rfl) rfl rfl hl.1 rfl (lv_room (Nat.le_of_ble_eq_true rfl)) d_M_countUntil_1 ⟨Nat.le_of_ble_eq_true rfl, Nat.le_of_ble_eq_true rfl⟩) (fun u H locs hu_7 hP hD hS => ?_)
  obtain ⟨sq9_1, so9_2, ds9_3, as9_4, bs9_5, cs9_6⟩ := u
  have hu_7 : MRz zs sc li ds9_3 as9_4 bs9_5 cs9_6 ∧ (kn = 1 → ds9_3 = ds ∧ as9_4 = as ∧ bs9_5 = bs ∧ cs9_6 = cs) := hu_7
  have hP := hP.sub (ws' := [(aM, .inr (3, [.int th0, .ref mS, .ref mC, .ref mL, .ref mK, .int 1, .ref mQ, .ref mT, .ref mD, .ref mA, .ref mB, .ref mG])), (mS, .inl (cI, 3, .inl zs)), (mC, .inl (cI, 3, .inl sc)), (mL, .inl (cI, 3, .inl li)), (mQ, .inl (cL, 243, .inr (.inl sq9_1))), (mT, .inl (cL, 243, .inr (.inl so9_2))), (mD, .inl (cL, 500, .inr (.inl ds9_3))), (mA, .inl (cI, 500, .inl as9_4)), (mB, .inl (cI, 500, .inl bs9_5)), (mG, .inl (cI, 500, .inl cs9_6))]) [0, 1, 2, 3, 4, 5, 6, 7, 8, 9] rfl
  have hD := hD.sub (ws' := [(aM, .inr (3, [.int th0, .ref mS, .ref mC, .ref mL, .ref mK, .int 1, .ref mQ, .ref mT, .ref mD, .ref mA, .ref mB, .ref mG])), (mS, .inl (cI, 3, .inl zs)), (mC, .inl (cI, 3, .inl sc)), (mL, .inl (cI, 3, .inl li)), (mQ, .inl (cL, 243, .inr (.inl sq9_1))), (mT, .inl (cL, 243, .inr (.inl so9_2))), (mD, .inl (cL, 500, .inr (.inl ds9_3))), (mA, .inl (cI, 500, .inl as9_4)), (mB, .inl (cI, 500, .inl bs9_5)), (mG, .inl (cI, 500, .inl cs9_6))]) [0, 1, 2, 3, 4, 5, 6, 7, 8, 9] (by decide) rfl
  refine lv_iconst (v := 0) hx hb d_M_countUntil_4 (by decide) ?_
  refine lv_istore_n (lv' := [(3, .int 0), (0, .ref aM), (1, .long d)]) hx hb d_M_countUntil_5 rfl hl (by decide) rfl (fun ls hl => ?_)
  have lp : ∀ (n9 : Nat) (i : Nat), 500 < i + n9 → i ≤ 500 → j_cu ds9_3 d (500 - i) i = j_cu ds9_3 d 500 0 → ∀ (H : Heap) (locs : List Loc), va_P (dC, dI) vwCl [(aM, .inr (3, [.int th0, .ref mS, .ref mC, .ref mL, .ref mK, .int 1, .ref mQ, .ref mT, .ref mD, .ref mA, .ref mB, .ref mG])), (mS, .inl (cI, 3, .inl zs)), (mC, .inl (cI, 3, .inl sc)), (mL, .inl (cI, 3, .inl li)), (mQ, .inl (cL, 243, .inr (.inl sq9_1))), (mT, .inl (cL, 243, .inr (.inl so9_2))), (mD, .inl (cL, 500, .inr (.inl ds9_3))), (mA, .inl (cI, 500, .inl as9_4)), (mB, .inl (cI, 500, .inl bs9_5)), (mG, .inl (cI, 500, .inl cs9_6))] H → va_D A [(aM, .inr (3, [.int th0, .ref mS, .ref mC, .ref mL, .ref mK, .int 1, .ref mQ, .ref mT, .ref mD, .ref mA, .ref mB, .ref mG])), (mS, .inl (cI, 3, .inl zs)), (mC, .inl (cI, 3, .inl sc)), (mL, .inl (cI, 3, .inl li)), (mQ, .inl (cL, 243, .inr (.inl sq9_1))), (mT, .inl (cL, 243, .inr (.inl so9_2))), (mD, .inl (cL, 500, .inr (.inl ds9_3))), (mA, .inl (cI, 500, .inl as9_4)), (mB, .inl (cI, 500, .inl bs9_5)), (mG, .inl (cI, 500, .inl cs9_6))] → va_S A s.heap H locs → ∀ (ls : Array Slot), lv_has ls 4 [(3, .int (nI i)), (0, .ref aM), (1, .long d)] → W p l e (headSpec w_M_countUntil ({ frames := 3, cells := 0, slots := 0, locals := 86 })).room s m ([.ref aM, .long d] : List Value).toArray below meth c H locs 0 0 (MQ below (va_Qi (fun (r9 : Int32) (u : (Nat → Int64) × (Nat → Int64) × (Nat → Int64) × (Nat → Int32) × (Nat → Int32) × (Nat → Int32)) => MRz zs sc li u.2.2.1 u.2.2.2.1 u.2.2.2.2.1 u.2.2.2.2.2 ∧ r9 = nI (j_cu u.2.2.1 d 500 0)) (fun u t => va_P (dC, dI) vwCl [(aM, .inr (3, [.int th0, .ref mS, .ref mC, .ref mL, .ref mK, .int 1, .ref mQ, .ref mT, .ref mD, .ref mA, .ref mB, .ref mG])), (mS, .inl (cI, 3, .inl zs)), (mC, .inl (cI, 3, .inl sc)), (mL, .inl (cI, 3, .inl li)), (mQ, .inl (cL, 243, .inr (.inl u.1))), (mT, .inl (cL, 243, .inr (.inl u.2.1))), (mD, .inl (cL, 500, .inr (.inl u.2.2.1))), (mA, .inl (cI, 500, .inl u.2.2.2.1)), (mB, .inl (cI, 500, .inl u.2.2.2.2.1)), (mG, .inl (cI, 500, .inl u.2.2.2.2.2))] t.heap ∧ va_D A [(aM, .inr (3, [.int th0, .ref mS, .ref mC, .ref mL, .ref mK, .int 1, .ref mQ, .ref mT, .ref mD, .ref mA, .ref mB, .ref mG])), (mS, .inl (cI, 3, .inl zs)), (mC, .inl (cI, 3, .inl sc)), (mL, .inl (cI, 3, .inl li)), (mQ, .inl (cL, 243, .inr (.inl u.1))), (mT, .inl (cL, 243, .inr (.inl u.2.1))), (mD, .inl (cL, 500, .inr (.inl u.2.2.1))), (mA, .inl (cI, 500, .inl u.2.2.2.1)), (mB, .inl (cI, 500, .inl u.2.2.2.2.1)), (mG, .inl (cI, 500, .inl u.2.2.2.2.2))]) A) ([.ref aM, .long d] : List Value).toArray s 0 0 A) (F0 m 6 ls []) := by
    intro n9
    induction n9 with
    | zero => intro i hn hi hj H locs hP hD hS ls hl; omega
    | succ n9 ih =>
      intro i hn hi hj H locs hP hD hS ls hl
      refine lv_iload_n hx hb d_M_countUntil_6 rfl (lv_at hl 0 rfl) ?_
      refine lv_sipush (v := 500) hx hb d_M_countUntil_7 (by decide) ?_
      refine lv_icmp_ge (tgt := 30) hx hb d_M_countUntil_10 (by decide) (fun c_10 => ?_) (fun c_10 => ?_)
      · skip
        refine lv_iload_n hx hb d_M_countUntil_30 rfl (lv_at hl 0 rfl) ?_
        have hP9 : va_P (dC, dI) vwCl [(aM, .inr (3, [.int th0, .ref mS, .ref mC, .ref mL, .ref mK, .int 1, .ref mQ, .ref mT, .ref mD, .ref mA, .ref mB, .ref mG])), (mS, .inl (cI, 3, .inl zs)), (mC, .inl (cI, 3, .inl sc)), (mL, .inl (cI, 3, .inl li)), (mQ, .inl (cL, 243, .inr (.inl sq9_1))), (mT, .inl (cL, 243, .inr (.inl so9_2))), (mD, .inl (cL, 500, .inr (.inl ds9_3))), (mA, .inl (cI, 500, .inl as9_4)), (mB, .inl (cI, 500, .inl bs9_5)), (mG, .inl (cI, 500, .inl cs9_6))] _ := hP
        have hD9 : va_D A [(aM, .inr (3, [.int th0, .ref mS, .ref mC, .ref mL, .ref mK, .int 1, .ref mQ, .ref mT, .ref mD, .ref mA, .ref mB, .ref mG])), (mS, .inl (cI, 3, .inl zs)), (mC, .inl (cI, 3, .inl sc)), (mL, .inl (cI, 3, .inl li)), (mQ, .inl (cL, 243, .inr (.inl sq9_1))), (mT, .inl (cL, 243, .inr (.inl so9_2))), (mD, .inl (cL, 500, .inr (.inl ds9_3))), (mA, .inl (cI, 500, .inl as9_4)), (mB, .inl (cI, 500, .inl bs9_5)), (mG, .inl (cI, 500, .inl cs9_6))] := hD
        exact W.iret (v := nI i) hx hb hr (fun t ht hW => ⟨⟨_, (sq9_1, so9_2, ds9_3, as9_4, bs9_5, cs9_6), rfl, ⟨hu_7.1, by rw [← hj, show 500 - i = 0 by have : 500 ≤ i := nu_end (x := 500) (by omega) c_10; omega]; rfl⟩, by rw [ht]; exact hP9, hD9⟩, hS.F ht⟩) hS.2.2 d_M_countUntil_31
      · skip
        have i5 : i < 500 := nu_on (x := 500) (by omega) c_10
        refine lv_aload_n hx hb d_M_countUntil_13 rfl (lv_at hl 1 rfl) ?_
        refine va_get (D := (dC, dI)) (ci := 3) (v := .ref mD) (C := "RoomEchoesModel") (T := FT_M) (N := 12) hx hb hts (hi_ in_M) hown hK hP 0 rfl rfl 8 (by decide) (ht_ hts mw432) (fun _ h9 => h9) rfl d_M_countUntil_14 ?_
        refine lv_iload_n hx hb d_M_countUntil_17 rfl (lv_at hl 0 rfl) ?_
        refine va_lald hx hb hK hP 6 1 rfl rfl (vp_in_nI (by omega) (by omega)) d_M_countUntil_18 ?_
        refine tp_l (ds9_3 i) (by rw [nI_clamp (by omega)]) ?_
        refine lv_lload_n hx hb d_M_countUntil_19 rfl (lv_at hl 2 rfl) ?_
        refine W.lcmp hx hb d_M_countUntil_20 ?_
        refine lv_if_gt (tgt := 30) hx hb d_M_countUntil_21 (by decide) (fun c_21 => ?_) (fun c_21 => ?_)
        · rw [lg_cmp_gt] at c_21
          refine lv_iload_n hx hb d_M_countUntil_30 rfl (lv_at hl 0 rfl) ?_
          have hP9 : va_P (dC, dI) vwCl [(aM, .inr (3, [.int th0, .ref mS, .ref mC, .ref mL, .ref mK, .int 1, .ref mQ, .ref mT, .ref mD, .ref mA, .ref mB, .ref mG])), (mS, .inl (cI, 3, .inl zs)), (mC, .inl (cI, 3, .inl sc)), (mL, .inl (cI, 3, .inl li)), (mQ, .inl (cL, 243, .inr (.inl sq9_1))), (mT, .inl (cL, 243, .inr (.inl so9_2))), (mD, .inl (cL, 500, .inr (.inl ds9_3))), (mA, .inl (cI, 500, .inl as9_4)), (mB, .inl (cI, 500, .inl bs9_5)), (mG, .inl (cI, 500, .inl cs9_6))] _ := hP
          have hD9 : va_D A [(aM, .inr (3, [.int th0, .ref mS, .ref mC, .ref mL, .ref mK, .int 1, .ref mQ, .ref mT, .ref mD, .ref mA, .ref mB, .ref mG])), (mS, .inl (cI, 3, .inl zs)), (mC, .inl (cI, 3, .inl sc)), (mL, .inl (cI, 3, .inl li)), (mQ, .inl (cL, 243, .inr (.inl sq9_1))), (mT, .inl (cL, 243, .inr (.inl so9_2))), (mD, .inl (cL, 500, .inr (.inl ds9_3))), (mA, .inl (cI, 500, .inl as9_4)), (mB, .inl (cI, 500, .inl bs9_5)), (mG, .inl (cI, 500, .inl cs9_6))] := hD
          exact W.iret (v := nI i) hx hb hr (fun t ht hW => ⟨⟨_, (sq9_1, so9_2, ds9_3, as9_4, bs9_5, cs9_6), rfl, ⟨hu_7.1, by rw [← hj, show 500 - i = 500 - (i + 1) + 1 by omega]; exact congrArg nI (if_pos c_21).symm⟩, by rw [ht]; exact hP9, hD9⟩, hS.F ht⟩) hS.2.2 d_M_countUntil_31
        · rw [lg_cmp_gt] at c_21
          refine lv_iinc (v := nI (i + 1)) (lv' := [(3, .int (nI (i + 1))), (0, .ref aM), (1, .long d)]) hx hb d_M_countUntil_24 hl (k := 0) rfl (nI_succ _).symm (by decide) rfl (fun ls hl => ?_)
          refine lv_goto (tgt := 6) hx hb d_M_countUntil_27 (by decide) ?_
          exact ih (i + 1) (by omega) (by omega) (by rw [← hj, show 500 - i = 500 - (i + 1) + 1 by omega]; exact (if_neg c_21).symm) _ _ hP hD hS ls (lv_sub hl [0, 1, 2] rfl)
  exact lp 501 0 (by omega) (by omega) rfl _ _ hP hD hS ls (lv_sub hl [0, 1, 2] rfl)
